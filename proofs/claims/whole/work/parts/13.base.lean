theorem CW.pl' {G : eG} {ad : Nat → Nat} {s : St} {z : Zc} {hm h : Nat → va_E} (hw : CW G ad s z hm h) {p : Nat} (hp : p < 6) : h (10 + 2 * p) = .inr (2, [.int (b2i (s_lost s p)), .int (nI (s_lane s p)), .int (nI (s_w s p)), .int (nI (s_h s p)), .ref (ad (11 + 2 * p))]) := hw.pl p hp
theorem CW.kb' {G : eG} {ad : Nat → Nat} {s : St} {z : Zc} {hm h : Nat → va_E} (hw : CW G ad s z hm h) {p : Nat} (hp : p < 4) : h (22 + 3 * p) = .inr (0, [.int (nI (s_ca s p)), .int (nI (s_cb s p)), .int (nI (s_cr s p)), .int (nI (s_co s p)), .ref (ad (23 + 3 * p)), .ref (ad (24 + 3 * p))]) := hw.kb p hp
theorem CW.lw' {G : eG} {ad : Nat → Nat} {s : St} {z : Zc} {hm h : Nat → va_E} (hw : CW G ad s z hm h) {p : Nat} (hp : p < 4) : h (24 + 3 * p) = .inr (1, [.int (b2i (s_li s p)), .int (s_lA s p), .int (s_lB s p), .int (s_lF s p)]) := hw.lw p hp
/-- a cause is told -/
def f_caus (s : St) (k : Nat) : St := S_cc (S_cs s (nI k)) (upd (s_cc s) k (s_cc s k + 1))
/-- what always holds of the state -/
def Inv (s : St) : Prop := (∀ p, p < 6 → s_w s p ≤ 20 ∧ s_h s p ≤ 20 ∧ s_lane s p ≤ 2) ∧ (∀ p, p < 6 → ∀ k, k < 400 → (s_w s p ≤ k % 20 ∨ s_h s p ≤ k / 20) → s_ct s p k = 0) ∧ s_cn s ≤ 4 ∧ (∀ c, c < 4 → s_ca s c ≤ 304 ∧ s_cb s c ≤ 304 ∧ s_cr s c ≤ 3 ∧ s_co s c ≤ 20) ∧ (∀ c, c < 4 → ∀ x, x < 20 → s_nm s c x ≤ 700000) ∧ (∀ c, c < 4 → s_li s c = true → -1000000 ≤ (s_lA s c).toInt ∧ (s_lA s c).toInt ≤ 1000000 ∧ 1 ≤ (s_lB s c).toInt ∧ (s_lB s c).toInt ≤ 100000) ∧ (∀ c, c < 4 → s_li s c = false → s_lA s c = 0 ∧ s_lB s c = 0 ∧ s_lF s c = 0) ∧ s_lc s ≤ 12 ∧ (∀ i, i < s_lc s → 1 ≤ (s_ln s i).toInt ∧ (s_ln s i).toInt ≤ 1000000) ∧ s_gc s ≤ 60 ∧ s_md s ≤ 200 ∧ (∀ p, p < 6 → s_lost s p = false → 1 ≤ s_w s p ∧ 1 ≤ s_h s p) ∧ (∀ p, p < 6 → ∀ k, k < 400 → iCast (s_ct s p k) (nI (s_lane s p)) = s_ct s p k)

set_option maxHeartbeats 4000000 in
set_option maxRecDepth 100000 in
theorem m_plateOf {G : eG} {ad : Nat → Nat} {h : Nat → va_E} (k : Nat) {s : St} {z : Zc} {hm : Nat → va_E} (hw : CW G ad s z hm h) (hk : k < 6) : MC G M_X4_plateOf cX4_plateOf ad 54 [.ref (ad 0), .int (nI k)] h (IS (some (.ref (ad (10 + 2 * k)))) h) := by
  refine MC.of (by decide +kernel) (Nat.le_of_ble_eq_true rfl) (by dsimp only [linit, Nat.reduceSub, List.reduceReplicate] <;> rfl) ?_
  refine EV.iload_n (pc := 0) dX4_plateOf_0 rfl ?_
  refine EV.iconst (pc := 1) (v := 0) dX4_plateOf_1 (by decide) ?_
  refine EV.iconst (pc := 2) (v := 5) dX4_plateOf_2 (by decide) ?_
  refine EV.callSR1 (pc := 3) (M' := M_X4_within) dX4_plateOf_3 lkX4_106 okS_X4_within (m_within _ _ _) (by decide) rfl rfl (Nat.le_of_ble_eq_true rfl) ?_
  refine EV.if_eq (pc := 6) (tgt := 18) dX4_plateOf_6 (by decide) (fun q => absurd q (fun q => b2i_F q (by rw [nI_t (by omega), i_l0, i_l5]; omega))) (fun _ => ?_)
  refine EV.aload_n (pc := 9) dX4_plateOf_9 rfl ?_
  refine EV.getf (pc := 10) dX4_plateOf_10 fgX4_11 (by decide) hw.h0 rfl ?_
  refine EV.iload_n (pc := 13) dX4_plateOf_13 rfl ?_
  refine EV.aald (pc := 14) (t0 := 3) dX4_plateOf_14 rfl (by decide) hw.h1 (vp_in_nI hk (by omega)) (v := .ref (ad (10 + 2 * k))) (by rw [nI_clamp (by omega)]; rfl) ?_
  refine EV.goto (pc := 15) (tgt := 19) dX4_plateOf_15 (by decide) ?_
  exact EV.rret (pc := 19) dX4_plateOf_19 trivial ⟨rfl, rfl⟩

set_option maxHeartbeats 4000000 in
set_option maxRecDepth 100000 in
theorem m_plateOfN {G : eG} {ad : Nat → Nat} {h : Nat → va_E} (v : Int32) {s : St} {z : Zc} {hm : Nat → va_E} (hw : CW G ad s z hm h) (hk : ¬ (0 ≤ v.toInt ∧ v.toInt ≤ 5)) : MC G M_X4_plateOf cX4_plateOf ad 54 [.ref (ad 0), .int v] h (IS (some .null) h) := by
  refine MC.of (by decide +kernel) (Nat.le_of_ble_eq_true rfl) (by dsimp only [linit, Nat.reduceSub, List.reduceReplicate] <;> rfl) ?_
  refine EV.iload_n (pc := 0) dX4_plateOf_0 rfl ?_
  refine EV.iconst (pc := 1) (v := 0) dX4_plateOf_1 (by decide) ?_
  refine EV.iconst (pc := 2) (v := 5) dX4_plateOf_2 (by decide) ?_
  refine EV.callSR1 (pc := 3) (M' := M_X4_within) dX4_plateOf_3 lkX4_106 okS_X4_within (m_within _ _ _) (by decide) rfl rfl (Nat.le_of_ble_eq_true rfl) ?_
  refine EV.if_eq (pc := 6) (tgt := 18) dX4_plateOf_6 (by decide) (fun _ => ?_) (fun q => absurd (by rw [i_l0, i_l5]; exact (b2i_0 hk).symm) q)
  refine EV.null (pc := 18) dX4_plateOf_18 ?_
  exact EV.nret (pc := 19) dX4_plateOf_19 trivial ⟨rfl, rfl⟩

set_option maxHeartbeats 4000000 in
set_option maxRecDepth 100000 in
theorem m_combOf {G : eG} {ad : Nat → Nat} {h : Nat → va_E} (k : Nat) {s : St} {z : Zc} {hm : Nat → va_E} (hw : CW G ad s z hm h) (hk : k < s_cn s) (hcn : s_cn s ≤ 4) : MC G M_X4_combOf cX4_combOf ad 54 [.ref (ad 0), .int (nI k)] h (IS (some (.ref (ad (22 + 3 * k)))) h) := by
  refine MC.of (by decide +kernel) (Nat.le_of_ble_eq_true rfl) (by dsimp only [linit, Nat.reduceSub, List.reduceReplicate] <;> rfl) ?_
  refine EV.iload_n (pc := 0) dX4_combOf_0 rfl ?_
  refine EV.iconst (pc := 1) (v := 0) dX4_combOf_1 (by decide) ?_
  refine EV.aload_n (pc := 2) dX4_combOf_2 rfl ?_
  refine EV.getf (pc := 3) dX4_combOf_3 fgX4_110 (by decide) hw.h0 rfl ?_
  refine EV.iconst (pc := 6) (v := 1) dX4_combOf_6 (by decide) ?_
  refine EV.isub (pc := 7) dX4_combOf_7 ?_
  refine EV.callSR1 (pc := 8) (M' := M_X4_within) dX4_combOf_8 lkX4_106 okS_X4_within (m_within _ _ _) (by decide) rfl rfl (Nat.le_of_ble_eq_true rfl) ?_
  refine EV.if_eq (pc := 11) (tgt := 23) dX4_combOf_11 (by decide) (fun q => absurd q (fun q => b2i_F q (by rw [nI_t (by omega), i_l0, nI_m1 (by omega), nI_t (by omega)]; omega))) (fun _ => ?_)
  refine EV.aload_n (pc := 14) dX4_combOf_14 rfl ?_
  refine EV.getf (pc := 15) dX4_combOf_15 fgX4_21 (by decide) hw.h0 rfl ?_
  refine EV.iload_n (pc := 18) dX4_combOf_18 rfl ?_
  refine EV.aald (pc := 19) (t0 := 4) dX4_combOf_19 rfl (by decide) hw.h3 (vp_in_nI (show k < 4 by omega) (by omega)) (v := .ref (ad (22 + 3 * k))) (by rw [nI_clamp (by omega)]; rfl) ?_
  refine EV.goto (pc := 20) (tgt := 24) dX4_combOf_20 (by decide) ?_
  exact EV.rret (pc := 24) dX4_combOf_24 trivial ⟨rfl, rfl⟩

set_option maxHeartbeats 4000000 in
set_option maxRecDepth 100000 in
theorem m_combOfN {G : eG} {ad : Nat → Nat} {h : Nat → va_E} (v : Int32) {s : St} {z : Zc} {hm : Nat → va_E} (hw : CW G ad s z hm h) (hk : ¬ (0 ≤ v.toInt ∧ v.toInt < s_cn s)) (hcn : s_cn s ≤ 4) : MC G M_X4_combOf cX4_combOf ad 54 [.ref (ad 0), .int v] h (IS (some .null) h) := by
  refine MC.of (by decide +kernel) (Nat.le_of_ble_eq_true rfl) (by dsimp only [linit, Nat.reduceSub, List.reduceReplicate] <;> rfl) ?_
  refine EV.iload_n (pc := 0) dX4_combOf_0 rfl ?_
  refine EV.iconst (pc := 1) (v := 0) dX4_combOf_1 (by decide) ?_
  refine EV.aload_n (pc := 2) dX4_combOf_2 rfl ?_
  refine EV.getf (pc := 3) dX4_combOf_3 fgX4_110 (by decide) hw.h0 rfl ?_
  refine EV.iconst (pc := 6) (v := 1) dX4_combOf_6 (by decide) ?_
  refine EV.isub (pc := 7) dX4_combOf_7 ?_
  refine EV.callSR1 (pc := 8) (M' := M_X4_within) dX4_combOf_8 lkX4_106 okS_X4_within (m_within _ _ _) (by decide) rfl rfl (Nat.le_of_ble_eq_true rfl) ?_
  refine EV.if_eq (pc := 11) (tgt := 23) dX4_combOf_11 (by decide) (fun _ => ?_) (fun q => absurd (by rw [i_l0, nI_iI, show (1 : Int32) = iI 1 from iI_lit 1, iI_sub, iI_toInt (by omega) (by omega)]; exact (b2i_0 (by omega)).symm) q)
  refine EV.null (pc := 23) dX4_combOf_23 ?_
  exact EV.nret (pc := 24) dX4_combOf_24 trivial ⟨rfl, rfl⟩

set_option maxHeartbeats 4000000 in
set_option maxRecDepth 100000 in
theorem m_caused {G : eG} {ad : Nat → Nat} {h : Nat → va_E} (k : Nat) {s : St} {z : Zc} {hm : Nat → va_E} (hw : CW G ad s z hm h) (hk : k ≤ 5) : MC G M_X4_caused cX4_caused ad 54 [.ref (ad 0), .int (nI k)] h (fun v h' => v = some (.int (-10 - nI k)) ∧ CW G ad (f_caus s k) z hm h') := by
  refine MC.of (by decide +kernel) (Nat.le_of_ble_eq_true rfl) (by dsimp only [linit, Nat.reduceSub, List.reduceReplicate] <;> rfl) ?_
  refine EV.aload_n (pc := 0) dX4_caused_0 rfl ?_
  refine EV.iload_n (pc := 1) dX4_caused_1 rfl ?_
  refine EV.putf (pc := 2) dX4_caused_2 fpX4_223 (by decide) hw.h0 rfl rfl (Nat.le_of_ble_eq_true rfl) ?_
  refine EV.abs (Pr := CW G ad (S_cs s (nI k)) z hm) (hw.set_cs (nI k)) (fun h hw => ?_)
  refine EV.aload_n (pc := 5) dX4_caused_5 rfl ?_
  refine EV.getf (pc := 6) dX4_caused_6 fgX4_33 (by decide) hw.h0 rfl ?_
  refine EV.iload_n (pc := 9) dX4_caused_9 rfl ?_
  refine EV.dup2i (pc := 10) dX4_caused_10 rfl rfl ?_
  refine EV.iald (pc := 11) dX4_caused_11 (by decide) hw.h6 (vp_in_nI (show k < 6 by omega) (by omega)) ?_
  refine EV.iconst (pc := 12) (v := 1) dX4_caused_12 (by decide) ?_
  refine EV.iadd (pc := 13) dX4_caused_13 ?_
  refine EV.iast (pc := 14) dX4_caused_14 (by decide) hw.h6 (vp_in_nI (show k < 6 by omega) (by omega)) ?_
  refine EV.abs (Pr := CW G ad (f_caus s k) z hm) (by have q := hw.set_cc k (s_cc s k + 1); rw [nI_clamp (by omega)]; exact q) (fun h hw => ?_)
  refine EV.bipush (pc := 15) (v := -10) dX4_caused_15 (by decide) ?_
  refine EV.iload_n (pc := 17) dX4_caused_17 rfl ?_
  refine EV.isub (pc := 18) dX4_caused_18 ?_
  exact EV.iret (pc := 19) dX4_caused_19 trivial ⟨rfl, hw⟩

set_option maxHeartbeats 4000000 in
set_option maxRecDepth 100000 in
theorem m_isBad {G : eG} {ad : Nat → Nat} {h : Nat → va_E} (x y : Nat) {s : St} {z : Zc} {hm : Nat → va_E} (hw : CW G ad s z hm h) (hx : x < 20) (hy : y < 20) : MC G M_X4_isBad cX4_isBad ad 54 [.ref (ad 0), .int (nI x), .int (nI y)] h (IS (some (.int (b2i (s_bad s (y * 20 + x))))) h) := by
  refine MC.of (by decide +kernel) (Nat.le_of_ble_eq_true rfl) (by dsimp only [linit, Nat.reduceSub, List.reduceReplicate] <;> rfl) ?_
  refine EV.iload_n (pc := 0) dX4_isBad_0 rfl ?_
  refine EV.iload_n (pc := 1) dX4_isBad_1 rfl ?_
  refine EV.callSR1 (pc := 2) (M' := M_X4_isCell) dX4_isBad_2 lkX4_100 okS_X4_isCell (m_isCell _ _) (by decide) rfl rfl (Nat.le_of_ble_eq_true rfl) ?_
  refine EV.if_eq (pc := 5) (tgt := 26) dX4_isBad_5 (by decide) (fun q => absurd q (fun q => b2i_F q (by rw [nI_t (by omega), nI_t (by omega)]; omega))) (fun _ => ?_)
  refine EV.aload_n (pc := 8) dX4_isBad_8 rfl ?_
  refine EV.getf (pc := 9) dX4_isBad_9 fgX4_15 (by decide) hw.h0 rfl ?_
  refine EV.iload_n (pc := 12) dX4_isBad_12 rfl ?_
  refine EV.bipush (pc := 13) (v := 20) dX4_isBad_13 (by decide) ?_
  refine EV.imul (pc := 15) dX4_isBad_15 ?_
  refine EV.iload_n (pc := 16) dX4_isBad_16 rfl ?_
  refine EV.iadd (pc := 17) dX4_isBad_17 ?_
  rw [nI_at]
  refine EV.zald (pc := 18) dX4_isBad_18 (by decide) hw.h2 (vp_in_nI (show y * 20 + x < 400 by omega) (by omega)) ?_
  refine EV.topi (y := b2i (s_bad s (y * 20 + x))) (by rw [nI_clamp (by omega)]) ?_
  refine EV.if_eq (pc := 19) (tgt := 26) dX4_isBad_19 (by decide) (fun c19 => ?_) (fun c19 => ?_)
  · refine EV.iconst (pc := 26) (v := 0) dX4_isBad_26 (by decide) ?_
    refine EV.iret (pc := 27) dX4_isBad_27 (by rfl) ?_
    exact ⟨congrArg (fun z => some (Value.int z)) (by first | (rw [b2i_ne c19]; rfl) | (rw [b2i_eq c19]; rfl)), rfl⟩
  · refine EV.iconst (pc := 22) (v := 1) dX4_isBad_22 (by decide) ?_
    refine EV.goto (pc := 23) (tgt := 27) dX4_isBad_23 (by decide) ?_
    refine EV.iret (pc := 27) dX4_isBad_27 (by rfl) ?_
    exact ⟨congrArg (fun z => some (Value.int z)) (by first | (rw [b2i_ne c19]; rfl) | (rw [b2i_eq c19]; rfl)), rfl⟩
