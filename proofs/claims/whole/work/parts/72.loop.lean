set_option maxHeartbeats 4000000 in
set_option maxRecDepth 100000 in
theorem l_law {G : eG} {ad : Nat → Nat} (b L : Nat) (xs : Nat → Int32) (hL : L ≤ 3072) : ∀ (n i : Nat) (s : St) (h : Nat → va_E), L ≤ i + n → i ≤ 3072 → BW G ad s h → EV G M_L_law cL_law (some (b, L, xs)) ad 54 (fun v _ => v = some (.int 1)) 18 [some (.ref b), some (.ref (ad 0)), some (.ref (ad 34)), some (.int (nI i))] [] h := by
  have e0 : Int32.ofNat L - 6 = iI ((L : Int) - 6) := by
    show nI L - 6 = _
    rw [nI_iI, show (6 : Int32) = iI 6 from iI_lit 6, iI_sub]
  intro n
  induction n with
  | zero =>
    intro i s h hn hi hB
    refine EV.iload_n (pc := 18) dL_law_18 rfl ?_
    refine EV.aload_n (pc := 19) dL_law_19 rfl ?_
    refine EV.slen (pc := 20) dL_law_20 ?_
    refine EV.bipush (pc := 21) (v := 6) dL_law_21 (by decide) ?_
    refine EV.isub (pc := 23) dL_law_23 ?_
    refine EV.topi (y := iI ((L : Int) - 6)) e0 ?_
    refine EV.icmp_gt (pc := 24) (tgt := 1277) dL_law_24 (by decide) (fun _ => ?_) (fun q => absurd (by rw [nI_iI, iI_lt (by omega) (by omega) (by omega) (by omega)]; omega) q)
    refine EV.iconst (pc := 1277) (v := 1) dL_law_1277 (by decide) ?_
    exact EV.iret (pc := 1278) dL_law_1278 (by rfl) rfl
  | succ n ih =>
    intro i s h hn hi hB
    by_cases hx : i + 6 ≤ L
    · have kx : ∀ (s : St) (h : Nat → va_E), BW G ad s h → EV G M_L_law cL_law (some (b, L, xs)) ad 54 (fun v _ => v = some (.int 1)) 18 [some (.ref b), some (.ref (ad 0)), some (.ref (ad 34)), some (.int (nI (i + 6)))] [] h := fun s h hB => ih (i + 6) s h (by omega) (by omega) hB
      refine EV.iload_n (pc := 18) dL_law_18 rfl ?_
      refine EV.aload_n (pc := 19) dL_law_19 rfl ?_
      refine EV.slen (pc := 20) dL_law_20 ?_
      refine EV.bipush (pc := 21) (v := 6) dL_law_21 (by decide) ?_
      refine EV.isub (pc := 23) dL_law_23 ?_
      refine EV.topi (y := iI ((L : Int) - 6)) e0 ?_
      refine EV.icmp_gt (pc := 24) (tgt := 1277) dL_law_24 (by decide) (fun q => absurd q (by rw [nI_iI, iI_lt (by omega) (by omega) (by omega) (by omega)]; omega)) (fun _ => ?_)
      refine EV.aload_n (pc := 27) dL_law_27 rfl ?_
      refine EV.iload_n (pc := 28) dL_law_28 rfl ?_
      refine EV.sld (pc := 29) dL_law_29 (vp_in_nI (show i < L by omega) (by omega)) ?_
      refine EV.topi (y := xs i) (by rw [nI_clamp (by omega)]) ?_
      refine EV.bipush (pc := 30) (v := 31) dL_law_30 (by decide) ?_
      refine EV.iand (pc := 32) dL_law_32 ?_
      obtain ⟨k, hk, ek⟩ := and31 (xs i)
      refine EV.topi (y := nI k) ek ?_
      match k, hk with
      | 0, _ =>
        refine EV.tin (pc := 33) (tgt := 164) (off := 131) dL_law_33 (by decide +kernel) (by decide +kernel) (by decide +kernel) (by decide) ?_
        exact lc_plate b L xs s h i hB hx hL kx
      | 1, _ =>
        refine EV.tin (pc := 33) (tgt := 217) (off := 184) dL_law_33 (by decide +kernel) (by decide +kernel) (by decide +kernel) (by decide) ?_
        exact lc_put b L xs s h i hB hx hL kx
      | 2, _ =>
        refine EV.tin (pc := 33) (tgt := 280) (off := 247) dL_law_33 (by decide +kernel) (by decide +kernel) (by decide +kernel) (by decide) ?_
        exact lc_copy b L xs s h i hB hx hL kx
      | 3, _ =>
        refine EV.tin (pc := 33) (tgt := 313) (off := 280) dL_law_33 (by decide +kernel) (by decide +kernel) (by decide +kernel) (by decide) ?_
        exact lc_less b L xs s h i hB hx hL kx
      | 4, _ =>
        refine EV.tin (pc := 33) (tgt := 346) (off := 313) dL_law_33 (by decide +kernel) (by decide +kernel) (by decide +kernel) (by decide) ?_
        exact lc_lose b L xs s h i hB hx hL kx
      | 5, _ =>
        refine EV.tin (pc := 33) (tgt := 369) (off := 336) dL_law_33 (by decide +kernel) (by decide +kernel) (by decide +kernel) (by decide) ?_
        exact lc_bad b L xs s h i hB hx hL kx
      | 6, _ =>
        refine EV.tin (pc := 33) (tgt := 428) (off := 395) dL_law_33 (by decide +kernel) (by decide +kernel) (by decide +kernel) (by decide) ?_
        exact lc_look b L xs s h i hB hx hL kx
      | 7, _ =>
        refine EV.tin (pc := 33) (tgt := 471) (off := 438) dL_law_33 (by decide +kernel) (by decide +kernel) (by decide +kernel) (by decide) ?_
        exact lc_comb b L xs s h i hB hx hL kx
      | 8, _ =>
        refine EV.tin (pc := 33) (tgt := 514) (off := 481) dL_law_33 (by decide +kernel) (by decide +kernel) (by decide +kernel) (by decide) ?_
        exact lc_told b L xs s h i hB hx hL kx
      | 9, _ =>
        refine EV.tin (pc := 33) (tgt := 547) (off := 514) dL_law_33 (by decide +kernel) (by decide +kernel) (by decide +kernel) (by decide) ?_
        exact lc_band b L xs s h i hB hx hL kx
      | 10, _ =>
        refine EV.tin (pc := 33) (tgt := 600) (off := 567) dL_law_33 (by decide +kernel) (by decide +kernel) (by decide +kernel) (by decide) ?_
        exact lc_trace b L xs s h i hB hx hL kx
      | 11, _ =>
        refine EV.tin (pc := 33) (tgt := 633) (off := 600) dL_law_33 (by decide +kernel) (by decide +kernel) (by decide +kernel) (by decide) ?_
        exact lc_draw b L xs s h i hB hx hL kx
      | 12, _ =>
        refine EV.tin (pc := 33) (tgt := 686) (off := 653) dL_law_33 (by decide +kernel) (by decide +kernel) (by decide +kernel) (by decide) ?_
        exact lc_number b L xs s h i hB hx hL kx
      | 13, _ =>
        refine EV.tin (pc := 33) (tgt := 720) (off := 687) dL_law_33 (by decide +kernel) (by decide +kernel) (by decide +kernel) (by decide) ?_
        exact lc_peaks b L xs s h i hB hx hL kx
      | 14, _ =>
        refine EV.tin (pc := 33) (tgt := 783) (off := 750) dL_law_33 (by decide +kernel) (by decide +kernel) (by decide +kernel) (by decide) ?_
        exact lc_peak b L xs s h i hB hx hL kx
      | 15, _ =>
        refine EV.tin (pc := 33) (tgt := 856) (off := 823) dL_law_33 (by decide +kernel) (by decide +kernel) (by decide +kernel) (by decide) ?_
        exact lc_line b L xs s h i hB hx hL kx
      | 16, _ =>
        refine EV.tin (pc := 33) (tgt := 879) (off := 846) dL_law_33 (by decide +kernel) (by decide +kernel) (by decide +kernel) (by decide) ?_
        exact lc_clear b L xs s h i hB hx hL kx
      | 17, _ =>
        refine EV.tin (pc := 33) (tgt := 892) (off := 859) dL_law_33 (by decide +kernel) (by decide +kernel) (by decide +kernel) (by decide) ?_
        exact lc_match b L xs s h i hB hx hL kx
      | 18, _ =>
        refine EV.tin (pc := 33) (tgt := 965) (off := 932) dL_law_33 (by decide +kernel) (by decide +kernel) (by decide +kernel) (by decide) ?_
        exact lc_law b L xs s h i hB hx hL kx
      | 19, _ =>
        refine EV.tin (pc := 33) (tgt := 1008) (off := 975) dL_law_33 (by decide +kernel) (by decide +kernel) (by decide +kernel) (by decide) ?_
        exact lc_wave b L xs s h i hB hx hL kx
      | 20, _ =>
        refine EV.tin (pc := 33) (tgt := 1041) (off := 1008) dL_law_33 (by decide +kernel) (by decide +kernel) (by decide +kernel) (by decide) ?_
        exact lc_join b L xs s h i hB hx hL kx
      | 21, _ =>
        refine EV.tin (pc := 33) (tgt := 1084) (off := 1051) dL_law_33 (by decide +kernel) (by decide +kernel) (by decide +kernel) (by decide) ?_
        exact lc_joined b L xs s h i hB hx hL kx
      | 22, _ =>
        refine EV.tin (pc := 33) (tgt := 1108) (off := 1075) dL_law_33 (by decide +kernel) (by decide +kernel) (by decide +kernel) (by decide) ?_
        exact lc_shift b L xs s h i hB hx hL kx
      | 23, _ =>
        refine EV.tin (pc := 33) (tgt := 1152) (off := 1119) dL_law_33 (by decide +kernel) (by decide +kernel) (by decide +kernel) (by decide) ?_
        exact lc_best b L xs s h i hB hx hL kx
      | 24, _ =>
        refine EV.tin (pc := 33) (tgt := 1185) (off := 1152) dL_law_33 (by decide +kernel) (by decide +kernel) (by decide +kernel) (by decide) ?_
        exact lc_seen b L xs s h i hB hx hL kx
      | 25, _ =>
        refine EV.tin (pc := 33) (tgt := 1198) (off := 1165) dL_law_33 (by decide +kernel) (by decide +kernel) (by decide +kernel) (by decide) ?_
        exact lc_cause b L xs s h i hB hx hL kx
      | 26, _ =>
        refine EV.tin (pc := 33) (tgt := 1211) (off := 1178) dL_law_33 (by decide +kernel) (by decide +kernel) (by decide +kernel) (by decide) ?_
        exact lc_causes b L xs s h i hB hx hL kx
      | 27, _ =>
        refine EV.tin (pc := 33) (tgt := 1234) (off := 1201) dL_law_33 (by decide +kernel) (by decide +kernel) (by decide +kernel) (by decide) ?_
        exact lc_count b L xs s h i hB hx hL kx
      | 28, _ =>
        refine EV.tin (pc := 33) (tgt := 1257) (off := 1224) dL_law_33 (by decide +kernel) (by decide +kernel) (by decide +kernel) (by decide) ?_
        exact lc_digest b L xs s h i hB hx hL kx
      | 29, _ =>
        refine EV.tout (pc := 33) (tgt := 1271) dL_law_33 (by decide +kernel) (by decide) ?_
        refine EV.iinc (pc := 1271) dL_law_1271 (by decide) rfl (show nI i + Int32.ofInt 6 = nI (i + 6) from nI_k i 6) (by dsimp only [lst1, lk] <;> rfl) ?_
        refine EV.goto (pc := 1274) (tgt := 18) dL_law_1274 (by decide) ?_
        exact kx s h hB
      | 30, _ =>
        refine EV.tout (pc := 33) (tgt := 1271) dL_law_33 (by decide +kernel) (by decide) ?_
        refine EV.iinc (pc := 1271) dL_law_1271 (by decide) rfl (show nI i + Int32.ofInt 6 = nI (i + 6) from nI_k i 6) (by dsimp only [lst1, lk] <;> rfl) ?_
        refine EV.goto (pc := 1274) (tgt := 18) dL_law_1274 (by decide) ?_
        exact kx s h hB
      | 31, _ =>
        refine EV.tout (pc := 33) (tgt := 1271) dL_law_33 (by decide +kernel) (by decide) ?_
        refine EV.iinc (pc := 1271) dL_law_1271 (by decide) rfl (show nI i + Int32.ofInt 6 = nI (i + 6) from nI_k i 6) (by dsimp only [lst1, lk] <;> rfl) ?_
        refine EV.goto (pc := 1274) (tgt := 18) dL_law_1274 (by decide) ?_
        exact kx s h hB
      | k + 32, hk => exact absurd hk (by omega)
    · skip
      refine EV.iload_n (pc := 18) dL_law_18 rfl ?_
      refine EV.aload_n (pc := 19) dL_law_19 rfl ?_
      refine EV.slen (pc := 20) dL_law_20 ?_
      refine EV.bipush (pc := 21) (v := 6) dL_law_21 (by decide) ?_
      refine EV.isub (pc := 23) dL_law_23 ?_
      refine EV.topi (y := iI ((L : Int) - 6)) e0 ?_
      refine EV.icmp_gt (pc := 24) (tgt := 1277) dL_law_24 (by decide) (fun _ => ?_) (fun q => absurd (by rw [nI_iI, iI_lt (by omega) (by omega) (by omega) (by omega)]; omega) q)
      refine EV.iconst (pc := 1277) (v := 1) dL_law_1277 (by decide) ?_
      exact EV.iret (pc := 1278) dL_law_1278 (by rfl) rfl
