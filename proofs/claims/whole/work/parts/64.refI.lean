theorem lB_pos {v : Int32} : 0 < lBnd v ↔ 0 < v.toInt := by
  unfold lBnd
  split
  · omega
  · split <;> omega
theorem uE_m1 {s : St} {f x y : Nat} : uE s f x (-1) y = uR s f x y := by
  unfold uE
  rw [decide_eq_true (show ((y : Int) ≠ -1) by omega), Bool.and_true]
theorem dF_y {s : St} {f x : Nat} {e : Int} {lo i : Nat} (eu : uE s f x e (lo + i) = true) : dF s f x e lo (i + 1) = dF s f x e lo i + cB s f x (lo + i) := by
  simp only [dF, sR, wF, eu, if_true]
theorem dF_n {s : St} {f x : Nat} {e : Int} {lo i : Nat} (eu : uE s f x e (lo + i) = false) : dF s f x e lo (i + 1) = dF s f x e lo i := by
  simp only [dF, sR, wF, eu, Bool.false_eq_true, if_false, Int.add_zero]
theorem dL_y {s : St} {f p x : Nat} {e : Int} {lo i : Nat} (eu : uE s f x e (lo + i) = true) : dL s f p x e lo (i + 1) = dL s f p x e lo i + cB s p x (lo + i) := by
  simp only [dL, sR, wS, eu, if_true]
theorem dL_n {s : St} {f p x : Nat} {e : Int} {lo i : Nat} (eu : uE s f x e (lo + i) = false) : dL s f p x e lo (i + 1) = dL s f p x e lo i := by
  simp only [dL, sR, wS, eu, Bool.false_eq_true, if_false, Int.add_zero]
theorem dR_y {s : St} {f x : Nat} {e : Int} {lo i : Nat} (eu : uE s f x e (lo + i) = true) : dR s f x e lo (i + 1) = dR s f x e lo i + 1 := by
  simp only [dR, sR, eu, if_true]
theorem dR_n {s : St} {f x : Nat} {e : Int} {lo i : Nat} (eu : uE s f x e (lo + i) = false) : dR s f x e lo (i + 1) = dR s f x e lo i := by
  simp only [dR, sR, eu, Bool.false_eq_true, if_false, Int.add_zero]
theorem dQ_y {s : St} {f x : Nat} {e : Int} {lo i : Nat} (eu : uE s f x e (lo + i) = true) : dQ s f x e lo (i + 1) = dQ s f x e lo i + cB s f x (lo + i) * cB s f x (lo + i) := by
  simp only [dQ, sR, wF, eu, if_true]
theorem dQ_n {s : St} {f x : Nat} {e : Int} {lo i : Nat} (eu : uE s f x e (lo + i) = false) : dQ s f x e lo (i + 1) = dQ s f x e lo i := by
  simp only [dQ, sR, wF, eu, Bool.false_eq_true, if_false, Int.mul_zero, Int.add_zero]
theorem dP_y {s : St} {f p x : Nat} {e : Int} {lo i : Nat} (eu : uE s f x e (lo + i) = true) : dP s f p x e lo (i + 1) = dP s f p x e lo i + cB s f x (lo + i) * cB s p x (lo + i) := by
  simp only [dP, sR, wF, wS, eu, if_true]
theorem dP_n {s : St} {f p x : Nat} {e : Int} {lo i : Nat} (eu : uE s f x e (lo + i) = false) : dP s f p x e lo (i + 1) = dP s f p x e lo i := by
  simp only [dP, sR, wF, wS, eu, Bool.false_eq_true, if_false, Int.mul_zero, Int.add_zero]
theorem ryN_no {s : St} {f p x : Nat} {F L : Int} {lo : Nat} : ∀ n, (ryN s f p x F L lo n).1 = -1 → dR s f x (-1) lo n = 0
  | 0, _ => rfl
  | n + 1, h => by
    have ih := ryN_no (s := s) (f := f) (p := p) (x := x) (F := F) (L := L) (lo := lo) n
    simp only [ryN] at h
    by_cases c : uR s f x (lo + n) = true
    · by_cases d : (ryN s f p x F L lo n).1 = -1
      · rw [if_pos ⟨c, Or.inl d⟩] at h
        dsimp only at h
        omega
      · exfalso
        split at h
        · dsimp only at h; omega
        · exact d h
    · rw [if_neg (fun q => c q.1)] at h
      rw [dR_n (by rw [uE_m1]; simpa using c)]
      exact ih h

set_option maxHeartbeats 4000000 in
set_option maxRecDepth 100000 in
theorem n_used {G : eG} {ad : Nat → Nat} {h : Nat → va_E}  {s : St} {z : Zm} {hm : Nat → va_E} (hw : MW G ad s z hm h) (f x y : Nat) (hf : f < 6) (hx : x < 20) (hy : y < 20) : MC G M_X5_isUsed cX5_isUsed ad 54 [.ref (ad 34), .int (nI f), .int (nI x), .int (nI y)] h (IS (some (.int (b2i (uR s f x y)))) h) := by
  refine MC.of (by decide +kernel) (Nat.le_of_ble_eq_true rfl) (by dsimp only [linit, Nat.reduceSub, List.reduceReplicate] <;> rfl) ?_
  refine EV.aload_n (pc := 0) dX5_isUsed_0 rfl ?_
  refine EV.getf (pc := 1) dX5_isUsed_1 fgX5_26 (by decide) hw.h34 rfl ?_
  refine EV.bipush (pc := 4) (v := 20) dX5_isUsed_4 (by decide) ?_
  refine EV.iload_n (pc := 6) dX5_isUsed_6 rfl ?_
  refine EV.imul (pc := 7) dX5_isUsed_7 ?_
  refine EV.iload_n (pc := 8) dX5_isUsed_8 rfl ?_
  refine EV.iadd (pc := 9) dX5_isUsed_9 ?_
  refine EV.topi (y := nI (y * 20 + x)) (ix2' y x) ?_
  refine EV.zald (pc := 10) dX5_isUsed_10 (by decide) hw.h40 (vp_in_nI (show y * 20 + x < 400 by omega) (by omega)) ?_
  refine EV.topi (y := b2i (s_bad s (y * 20 + x))) (by rw [nI_clamp (by omega)]) ?_
  refine EV.if_ne (pc := 11) (tgt := 32) dX5_isUsed_11 (by decide) (fun c11 => ?_) (fun c11 => ?_)
  · replace c11 := b2i_ne c11
    refine EV.iconst (pc := 32) (v := 0) dX5_isUsed_32 (by decide) ?_
    refine EV.iret (pc := 33) dX5_isUsed_33 (by rfl) ?_
    refine ⟨congrArg (fun z => some (Value.int z)) ?_, rfl⟩
    unfold uR cB
    first | (rw [Int32.le_iff_toInt_le, i_l0] at c25; rw [c11]; first | (rw [decide_eq_true (lB_pos.mpr (by omega))]; rfl) | (rw [decide_eq_false (fun q => by have := lB_pos.mp q; omega)]; rfl)) | (rw [c11]; rfl)
  · replace c11 := b2i_eq c11
    refine EV.aload_n (pc := 14) dX5_isUsed_14 rfl ?_
    refine EV.getf (pc := 15) dX5_isUsed_15 fgX5_23 (by decide) hw.h34 rfl ?_
    refine EV.iload_n (pc := 18) dX5_isUsed_18 rfl ?_
    refine EV.iload_n (pc := 19) dX5_isUsed_19 rfl ?_
    refine EV.iload_n (pc := 20) dX5_isUsed_20 rfl ?_
    refine EV.callSR1 (pc := 21) (M' := M_X5_place) dX5_isUsed_21 lkX5_96 okS_X5_place (n_place _ _ _) (by decide) rfl rfl (Nat.le_of_ble_eq_true rfl) ?_
    refine EV.topi (y := nI (400 * f + (y * 20 + x))) (pl4 f x y) ?_
    refine EV.iald (pc := 24) dX5_isUsed_24 (by decide) hw.h39 (vp_in_nI (show 400 * f + (y * 20 + x) < 2400 by omega) (by omega)) ?_
    refine EV.topi (y := s_ct s f (y * 20 + x)) (by rw [nI_clamp (by omega)]; exact n_rd (f := s_ct s) (by omega)) ?_
    refine EV.if_le (pc := 25) (tgt := 32) dX5_isUsed_25 (by decide) (fun c25 => ?_) (fun c25 => ?_)
    · refine EV.iconst (pc := 32) (v := 0) dX5_isUsed_32 (by decide) ?_
      refine EV.iret (pc := 33) dX5_isUsed_33 (by rfl) ?_
      refine ⟨congrArg (fun z => some (Value.int z)) ?_, rfl⟩
      unfold uR cB
      first | (rw [Int32.le_iff_toInt_le, i_l0] at c25; rw [c11]; first | (rw [decide_eq_true (lB_pos.mpr (by omega))]; rfl) | (rw [decide_eq_false (fun q => by have := lB_pos.mp q; omega)]; rfl)) | (rw [c11]; rfl)
    · refine EV.iconst (pc := 28) (v := 1) dX5_isUsed_28 (by decide) ?_
      refine EV.goto (pc := 29) (tgt := 33) dX5_isUsed_29 (by decide) ?_
      refine EV.iret (pc := 33) dX5_isUsed_33 (by rfl) ?_
      refine ⟨congrArg (fun z => some (Value.int z)) ?_, rfl⟩
      unfold uR cB
      first | (rw [Int32.le_iff_toInt_le, i_l0] at c25; rw [c11]; first | (rw [decide_eq_true (lB_pos.mpr (by omega))]; rfl) | (rw [decide_eq_false (fun q => by have := lB_pos.mp q; omega)]; rfl)) | (rw [c11]; rfl)

set_option maxHeartbeats 4000000 in
set_option maxRecDepth 100000 in
theorem l_nray2 {G : eG} {ad : Nat → Nat} {h : Nat → va_E} {s : St} {z : Zm} {hm : Nat → va_E} (hw : MW G ad s z hm h) (c p f x : Nat) (k : Int) (hI : Inv s) (hc : c < 4) (hp : p < 6) (hf : f < 6) (hx : x < s_w s f) (hsw : s_w s p = s_w s f) (hsh : s_h s p = s_h s f) (hk : 0 ≤ k ∧ k ≤ 100) : ∀ (n i : Nat) (v15 : Option Value), i + n = (rM s c f x) → EV G M_X5_ray cX5_ray none ad 54 (IS (some (.int (iI (if 3 ≤ (dR s f x (-1) (rLo s c f x) (rM s c f x)) then rayE s f p x (dF s f x (-1) (rLo s c f x) (rM s c f x)) (dL s f p x (-1) (rLo s c f x) (rM s c f x)) (rLo s c f x) (rM s c f x) k else -1)))) h) 113 [some (.ref (ad 34)), some (.int (nI c)), some (.int (nI p)), some (.int (nI f)), some (.int (nI x)), some (.int (iI k)), some (.long (jI (dF s f x (-1) (rLo s c f x) (rM s c f x)))), none, some (.long (jI (dL s f p x (-1) (rLo s c f x) (rM s c f x)))), none, some (.int (iI (dR s f x (-1) (rLo s c f x) (rM s c f x)))), some (.int (iI (ryN s f p x (dF s f x (-1) (rLo s c f x) (rM s c f x)) (dL s f p x (-1) (rLo s c f x) (rM s c f x)) (rLo s c f x) i).1)), some (.long (jI (ryN s f p x (dF s f x (-1) (rLo s c f x) (rM s c f x)) (dL s f p x (-1) (rLo s c f x) (rM s c f x)) (rLo s c f x) i).2)), none, some (.int (nI (rLo s c f x + i))), v15, none] [] h := by
  have hdf := hI.1 f hf
  have r1 := rLo_in hI hc hf hx
  have r2 := rHi_in hI hc hf hx
  have r3 := rM_in hI hc hf hx
  have eLo : rLo s c p x = rLo s c f x := by unfold rLo; rw [hsw]
  have eHi : rHi s c p x = rHi s c f x := by unfold rHi; rw [hsw, hsh]
  have hxp : x < s_w s p := by omega
  have g1 := dF_in s f x (-1) (rLo s c f x) (rM s c f x)
  have g2 := dL_in s f p x (-1) (rLo s c f x) (rM s c f x)
  have g3 := dR_in s f x (-1) (rLo s c f x) (rM s c f x)
  have hF : 0 ≤ (dF s f x (-1) (rLo s c f x) (rM s c f x)) ∧ (dF s f x (-1) (rLo s c f x) (rM s c f x)) ≤ 2000000 := by omega
  have hL : 0 ≤ (dL s f p x (-1) (rLo s c f x) (rM s c f x)) ∧ (dL s f p x (-1) (rLo s c f x) (rM s c f x)) ≤ 2000000 := by omega
  intro n
  induction n with
  | zero =>
    intro i v15 hi
    have ei : i = (rM s c f x) := by omega
    subst ei
    have q1 := ryN_in (s := s) (f := f) (p := p) (x := x) (lo := rLo s c f x) hF hL (rM s c f x)
    have qn := ryN_no (s := s) (f := f) (p := p) (x := x) (F := (dF s f x (-1) (rLo s c f x) (rM s c f x))) (L := (dL s f p x (-1) (rLo s c f x) (rM s c f x))) (lo := rLo s c f x) (rM s c f x)
    generalize hr : (ryN s f p x (dF s f x (-1) (rLo s c f x) (rM s c f x)) (dL s f p x (-1) (rLo s c f x) (rM s c f x)) (rLo s c f x) (rM s c f x)) = r at q1 qn ⊢
    refine EV.iload (pc := 113) dX5_ray_113 rfl ?_
    refine EV.aload_n (pc := 115) dX5_ray_115 rfl ?_
    refine EV.iload_n (pc := 116) dX5_ray_116 rfl ?_
    refine EV.iload_n (pc := 117) dX5_ray_117 rfl ?_
    refine EV.iload (pc := 118) dX5_ray_118 rfl ?_
    refine EV.callVR1 (pc := 120) (M' := M_X5_lastRow) dX5_ray_120 lkX5_130 okV_X5_lastRow (n_last hw c p x hI hc hp hxp) (by decide) rfl rfl (Nat.le_of_ble_eq_true rfl) (by decide) hw.h34 ?_
    refine EV.topi (y := iI (rHi s c f x)) (by rw [eHi]) ?_
    refine EV.icmp_gt (pc := 123) (tgt := 209) dX5_ray_123 (by decide) (fun _ => ?_) (fun q => absurd (by rw [nI_iI, iI_lt (by omega) (by omega) (by omega) (by omega)]; omega) q)
    refine EV.iload (pc := 209) dX5_ray_209 rfl ?_
    refine EV.iconst (pc := 211) (v := 3) dX5_ray_211 (by decide) ?_
    refine EV.icmp_lt (pc := 212) (tgt := 250) dX5_ray_212 (by decide) (fun c212 => ?_) (fun c212 => ?_)
    · refine EV.iconst (pc := 250) (v := -1) dX5_ray_250 (by decide) ?_
      refine EV.iret (pc := 251) dX5_ray_251 trivial ?_
      refine ⟨congrArg (fun z => some (Value.int z)) ?_, rfl⟩
      first
      | (rw [jI_le (by omega) (by omega) (by omega) (by omega)] at c241; rw [if_pos (by omega)]; unfold rayE; rw [hr]; first | (rw [if_pos (Or.inr (by rw [ey1, Int.toNat_natCast]; omega))]; rfl) | (rw [if_neg (by rw [ey1, Int.toNat_natCast]; omega)]))
      | (rw [Int32.lt_iff_toInt_lt, i_l3, iI_toInt (by omega) (by omega)] at c212; rw [if_neg (by omega)]; rfl)
    · rw [Int32.lt_iff_toInt_lt, i_l3, iI_toInt (by omega) (by omega)] at c212
      obtain ⟨y1, ey1⟩ : ∃ y1 : Nat, r.1 = (y1 : Int) := ⟨r.1.toNat, by omega⟩
      have hy1 : y1 < 20 := by omega
      have hcb := cB_in s f x y1
      refine EV.lload (pc := 215) dX5_ray_215 rfl ?_
      refine EV.iload (pc := 217) dX5_ray_217 rfl ?_
      refine EV.i2l (pc := 219) dX5_ray_219 ?_
      refine EV.topl (y := jI k) (iI_l (by omega) (by omega)) ?_
      refine EV.aload_n (pc := 220) dX5_ray_220 rfl ?_
      refine EV.aload_n (pc := 221) dX5_ray_221 rfl ?_
      refine EV.getf (pc := 222) dX5_ray_222 fgX5_23 (by decide) hw.h34 rfl ?_
      refine EV.iload_n (pc := 225) dX5_ray_225 rfl ?_
      refine EV.iload (pc := 226) dX5_ray_226 rfl ?_
      refine EV.iload (pc := 228) dX5_ray_228 rfl ?_
      refine EV.topi (y := nI y1) (by rw [ey1, nI_iI]) ?_
      refine EV.callSR1 (pc := 230) (M' := M_X5_place) dX5_ray_230 lkX5_96 okS_X5_place (n_place _ _ _) (by decide) rfl rfl (Nat.le_of_ble_eq_true rfl) ?_
      refine EV.topi (y := nI (400 * f + (y1 * 20 + x))) (pl4 f x y1) ?_
      refine EV.iald (pc := 233) dX5_ray_233 (by decide) hw.h39 (vp_in_nI (show 400 * f + (y1 * 20 + x) < 2400 by omega) (by omega)) ?_
      refine EV.topi (y := s_ct s f (y1 * 20 + x)) (by rw [nI_clamp (by omega)]; exact n_rd (f := s_ct s) (by omega)) ?_
      refine EV.callVR1 (pc := 234) (M' := M_X5_bounded) dX5_ray_234 lkX5_133 okV_X5_bounded (n_bounded _ _) (by decide) rfl rfl (Nat.le_of_ble_eq_true rfl) (by decide) hw.h34 ?_
      refine EV.topl (y := jI (cB s f x y1)) rfl ?_
      refine EV.lmul (pc := 237) dX5_ray_237 ?_
      refine EV.lload (pc := 238) dX5_ray_238 rfl ?_
      refine EV.lmul (pc := 240) dX5_ray_240 ?_
      refine EV.topl (y := jI (k * cB s f x y1 * (dL s f p x (-1) (rLo s c f x) (rM s c f x)))) (by rw [jI_mul, jI_mul]) ?_
      have b1 : 0 ≤ k * cB s f x y1 := Int.mul_nonneg hk.1 hcb.1
      have b2 : k * cB s f x y1 ≤ 100 * 100000 := Int.mul_le_mul hk.2 hcb.2 hcb.1 (by omega)
      have b3 : 0 ≤ k * cB s f x y1 * (dL s f p x (-1) (rLo s c f x) (rM s c f x)) := Int.mul_nonneg b1 hL.1
      have b4 : k * cB s f x y1 * (dL s f p x (-1) (rLo s c f x) (rM s c f x)) ≤ 10000000 * 2000000 := Int.mul_le_mul (by omega) hL.2 hL.1 (by omega)
      refine EV.lcmp_le (pc := 241) (tgt := 250) dX5_ray_241 dX5_ray_242 (by decide) (fun c241 => ?_) (fun c241 => ?_)
      · refine EV.iconst (pc := 250) (v := -1) dX5_ray_250 (by decide) ?_
        refine EV.iret (pc := 251) dX5_ray_251 trivial ?_
        refine ⟨congrArg (fun z => some (Value.int z)) ?_, rfl⟩
        first
        | (rw [jI_le (by omega) (by omega) (by omega) (by omega)] at c241; rw [if_pos (by omega)]; unfold rayE; rw [hr]; first | (rw [if_pos (Or.inr (by rw [ey1, Int.toNat_natCast]; omega))]; rfl) | (rw [if_neg (by rw [ey1, Int.toNat_natCast]; omega)]))
        | (rw [Int32.lt_iff_toInt_lt, i_l3, iI_toInt (by omega) (by omega)] at c212; rw [if_neg (by omega)]; rfl)
      · refine EV.iload (pc := 245) dX5_ray_245 rfl ?_
        refine EV.goto (pc := 247) (tgt := 251) dX5_ray_247 (by decide) ?_
        refine EV.iret (pc := 251) dX5_ray_251 trivial ?_
        refine ⟨congrArg (fun z => some (Value.int z)) ?_, rfl⟩
        first
        | (rw [jI_le (by omega) (by omega) (by omega) (by omega)] at c241; rw [if_pos (by omega)]; unfold rayE; rw [hr]; first | (rw [if_pos (Or.inr (by rw [ey1, Int.toNat_natCast]; omega))]; rfl) | (rw [if_neg (by rw [ey1, Int.toNat_natCast]; omega)]))
        | (rw [Int32.lt_iff_toInt_lt, i_l3, iI_toInt (by omega) (by omega)] at c212; rw [if_neg (by omega)]; rfl)
  | succ n ih =>
    intro i v15 hi
    have hi2 : i < (rM s c f x) := by omega
    have q1 := ryN_in (s := s) (f := f) (p := p) (x := x) (lo := rLo s c f x) hF hL i
    have q2 := exB_in (s := s) (f := f) (p := p) (x := x) (y := (rLo s c f x + i)) hF hL
    refine EV.iload (pc := 113) dX5_ray_113 rfl ?_
    refine EV.aload_n (pc := 115) dX5_ray_115 rfl ?_
    refine EV.iload_n (pc := 116) dX5_ray_116 rfl ?_
    refine EV.iload_n (pc := 117) dX5_ray_117 rfl ?_
    refine EV.iload (pc := 118) dX5_ray_118 rfl ?_
    refine EV.callVR1 (pc := 120) (M' := M_X5_lastRow) dX5_ray_120 lkX5_130 okV_X5_lastRow (n_last hw c p x hI hc hp hxp) (by decide) rfl rfl (Nat.le_of_ble_eq_true rfl) (by decide) hw.h34 ?_
    refine EV.topi (y := iI (rHi s c f x)) (by rw [eHi]) ?_
    refine EV.icmp_gt (pc := 123) (tgt := 209) dX5_ray_123 (by decide) (fun q => absurd q (by rw [nI_iI, iI_lt (by omega) (by omega) (by omega) (by omega)]; omega)) (fun _ => ?_)
    refine EV.aload_n (pc := 126) dX5_ray_126 rfl ?_
    refine EV.iload_n (pc := 127) dX5_ray_127 rfl ?_
    refine EV.iload (pc := 128) dX5_ray_128 rfl ?_
    refine EV.iload (pc := 130) dX5_ray_130 rfl ?_
    refine EV.callVR1 (pc := 132) (M' := M_X5_isUsed) dX5_ray_132 lkX5_145 okV_X5_isUsed (n_used hw f x (rLo s c f x + i) hf (by omega) (by omega)) (by decide) rfl rfl (Nat.le_of_ble_eq_true rfl) (by decide) hw.h34 ?_
    refine EV.if_eq (pc := 135) (tgt := 203) dX5_ray_135 (by decide) (fun c135 => ?_) (fun c135 => ?_)
    · replace c135 := b2i_eq c135
      refine EV.iinc (pc := 203) dX5_ray_203 (by decide) rfl (by first | exact nI_inc _ | rfl) (by dsimp only [lst1, lk] <;> rfl) ?_
      refine EV.goto (pc := 206) (tgt := 113) dX5_ray_206 (by decide) ?_
      first
      | (refine EV.eq rfl ?_ rfl rfl (ih (i + 1) (some (.long (jI (exB s f p x (dF s f x (-1) (rLo s c f x) (rM s c f x)) (dL s f p x (-1) (rLo s c f x) (rM s c f x)) (rLo s c f x + i))))) (by omega)); simp only [ryN]; rw [jI_le (by omega) (by omega) (by omega) (by omega)] at c191; rw [show (-1 : Int32) = iI (-1) from rfl, iI_eq (by omega) (by omega) (by omega) (by omega)] at c184; first | (rw [if_neg (by rw [c135]; omega)] <;> rfl) | (rw [if_pos ⟨c135, by omega⟩]; dsimp only; rw [← nI_iI (rLo s c f x + i)] <;> rfl))
      | (refine EV.eq rfl ?_ rfl rfl (ih (i + 1) (some (.long (jI (exB s f p x (dF s f x (-1) (rLo s c f x) (rM s c f x)) (dL s f p x (-1) (rLo s c f x) (rM s c f x)) (rLo s c f x + i))))) (by omega)); simp only [ryN]; rw [show (-1 : Int32) = iI (-1) from rfl, iI_eq (by omega) (by omega) (by omega) (by omega)] at c184; rw [if_pos ⟨c135, Or.inl c184⟩]; dsimp only; rw [← nI_iI (rLo s c f x + i)] <;> rfl)
      | (refine EV.eq rfl ?_ rfl rfl (ih (i + 1) v15 (by omega)); simp only [ryN]; rw [if_neg (by rw [c135]; simp)] <;> rfl)
    · replace c135 := b2i_ne c135
      refine EV.aload_n (pc := 138) dX5_ray_138 rfl ?_
      refine EV.aload_n (pc := 139) dX5_ray_139 rfl ?_
      refine EV.getf (pc := 140) dX5_ray_140 fgX5_23 (by decide) hw.h34 rfl ?_
      refine EV.iload_n (pc := 143) dX5_ray_143 rfl ?_
      refine EV.iload (pc := 144) dX5_ray_144 rfl ?_
      refine EV.iload (pc := 146) dX5_ray_146 rfl ?_
      refine EV.callSR1 (pc := 148) (M' := M_X5_place) dX5_ray_148 lkX5_96 okS_X5_place (n_place _ _ _) (by decide) rfl rfl (Nat.le_of_ble_eq_true rfl) ?_
      refine EV.topi (y := nI (400 * p + ((rLo s c f x + i) * 20 + x))) (pl4 p x (rLo s c f x + i)) ?_
      refine EV.iald (pc := 151) dX5_ray_151 (by decide) hw.h39 (vp_in_nI (show 400 * p + ((rLo s c f x + i) * 20 + x) < 2400 by omega) (by omega)) ?_
      refine EV.topi (y := s_ct s p ((rLo s c f x + i) * 20 + x)) (by rw [nI_clamp (by omega)]; exact n_rd (f := s_ct s) (by omega)) ?_
      refine EV.callVR1 (pc := 152) (M' := M_X5_bounded) dX5_ray_152 lkX5_133 okV_X5_bounded (n_bounded _ _) (by decide) rfl rfl (Nat.le_of_ble_eq_true rfl) (by decide) hw.h34 ?_
      refine EV.topl (y := jI (cB s p x (rLo s c f x + i))) rfl ?_
      refine EV.lload (pc := 155) dX5_ray_155 rfl ?_
      refine EV.lmul (pc := 157) dX5_ray_157 ?_
      refine EV.aload_n (pc := 158) dX5_ray_158 rfl ?_
      refine EV.aload_n (pc := 159) dX5_ray_159 rfl ?_
      refine EV.getf (pc := 160) dX5_ray_160 fgX5_23 (by decide) hw.h34 rfl ?_
      refine EV.iload_n (pc := 163) dX5_ray_163 rfl ?_
      refine EV.iload (pc := 164) dX5_ray_164 rfl ?_
      refine EV.iload (pc := 166) dX5_ray_166 rfl ?_
      refine EV.callSR1 (pc := 168) (M' := M_X5_place) dX5_ray_168 lkX5_96 okS_X5_place (n_place _ _ _) (by decide) rfl rfl (Nat.le_of_ble_eq_true rfl) ?_
      refine EV.topi (y := nI (400 * f + ((rLo s c f x + i) * 20 + x))) (pl4 f x (rLo s c f x + i)) ?_
      refine EV.iald (pc := 171) dX5_ray_171 (by decide) hw.h39 (vp_in_nI (show 400 * f + ((rLo s c f x + i) * 20 + x) < 2400 by omega) (by omega)) ?_
      refine EV.topi (y := s_ct s f ((rLo s c f x + i) * 20 + x)) (by rw [nI_clamp (by omega)]; exact n_rd (f := s_ct s) (by omega)) ?_
      refine EV.callVR1 (pc := 172) (M' := M_X5_bounded) dX5_ray_172 lkX5_133 okV_X5_bounded (n_bounded _ _) (by decide) rfl rfl (Nat.le_of_ble_eq_true rfl) (by decide) hw.h34 ?_
      refine EV.topl (y := jI (cB s f x (rLo s c f x + i))) rfl ?_
      refine EV.lload (pc := 175) dX5_ray_175 rfl ?_
      refine EV.lmul (pc := 177) dX5_ray_177 ?_
      refine EV.lsub (pc := 178) dX5_ray_178 ?_
      refine EV.topl (y := jI (exB s f p x (dF s f x (-1) (rLo s c f x) (rM s c f x)) (dL s f p x (-1) (rLo s c f x) (rM s c f x)) (rLo s c f x + i))) (by rw [jI_mul, jI_mul, jI_sub]; rfl) ?_
      refine EV.lstore (pc := 179) dX5_ray_179 (by decide) (by dsimp only [lst2, lno, lk] <;> rfl) ?_
      refine EV.iload (pc := 181) dX5_ray_181 rfl ?_
      refine EV.iconst (pc := 183) (v := -1) dX5_ray_183 (by decide) ?_
      refine EV.icmp_eq (pc := 184) (tgt := 195) dX5_ray_184 (by decide) (fun c184 => ?_) (fun c184 => ?_)
      · refine EV.iload (pc := 195) dX5_ray_195 rfl ?_
        refine EV.istore (pc := 197) dX5_ray_197 (by decide) (by dsimp only [lst1, lk] <;> rfl) ?_
        refine EV.lload (pc := 199) dX5_ray_199 rfl ?_
        refine EV.lstore (pc := 201) dX5_ray_201 (by decide) (by dsimp only [lst2, lno, lk] <;> rfl) ?_
        refine EV.iinc (pc := 203) dX5_ray_203 (by decide) rfl (by first | exact nI_inc _ | rfl) (by dsimp only [lst1, lk] <;> rfl) ?_
        refine EV.goto (pc := 206) (tgt := 113) dX5_ray_206 (by decide) ?_
        first
        | (refine EV.eq rfl ?_ rfl rfl (ih (i + 1) (some (.long (jI (exB s f p x (dF s f x (-1) (rLo s c f x) (rM s c f x)) (dL s f p x (-1) (rLo s c f x) (rM s c f x)) (rLo s c f x + i))))) (by omega)); simp only [ryN]; rw [jI_le (by omega) (by omega) (by omega) (by omega)] at c191; rw [show (-1 : Int32) = iI (-1) from rfl, iI_eq (by omega) (by omega) (by omega) (by omega)] at c184; first | (rw [if_neg (by rw [c135]; omega)] <;> rfl) | (rw [if_pos ⟨c135, by omega⟩]; dsimp only; rw [← nI_iI (rLo s c f x + i)] <;> rfl))
        | (refine EV.eq rfl ?_ rfl rfl (ih (i + 1) (some (.long (jI (exB s f p x (dF s f x (-1) (rLo s c f x) (rM s c f x)) (dL s f p x (-1) (rLo s c f x) (rM s c f x)) (rLo s c f x + i))))) (by omega)); simp only [ryN]; rw [show (-1 : Int32) = iI (-1) from rfl, iI_eq (by omega) (by omega) (by omega) (by omega)] at c184; rw [if_pos ⟨c135, Or.inl c184⟩]; dsimp only; rw [← nI_iI (rLo s c f x + i)] <;> rfl)
        | (refine EV.eq rfl ?_ rfl rfl (ih (i + 1) v15 (by omega)); simp only [ryN]; rw [if_neg (by rw [c135]; simp)] <;> rfl)
      · refine EV.lload (pc := 187) dX5_ray_187 rfl ?_
        refine EV.lload (pc := 189) dX5_ray_189 rfl ?_
        refine EV.lcmp_le (pc := 191) (tgt := 203) dX5_ray_191 dX5_ray_192 (by decide) (fun c191 => ?_) (fun c191 => ?_)
        · refine EV.iinc (pc := 203) dX5_ray_203 (by decide) rfl (by first | exact nI_inc _ | rfl) (by dsimp only [lst1, lk] <;> rfl) ?_
          refine EV.goto (pc := 206) (tgt := 113) dX5_ray_206 (by decide) ?_
          first
          | (refine EV.eq rfl ?_ rfl rfl (ih (i + 1) (some (.long (jI (exB s f p x (dF s f x (-1) (rLo s c f x) (rM s c f x)) (dL s f p x (-1) (rLo s c f x) (rM s c f x)) (rLo s c f x + i))))) (by omega)); simp only [ryN]; rw [jI_le (by omega) (by omega) (by omega) (by omega)] at c191; rw [show (-1 : Int32) = iI (-1) from rfl, iI_eq (by omega) (by omega) (by omega) (by omega)] at c184; first | (rw [if_neg (by rw [c135]; omega)] <;> rfl) | (rw [if_pos ⟨c135, by omega⟩]; dsimp only; rw [← nI_iI (rLo s c f x + i)] <;> rfl))
          | (refine EV.eq rfl ?_ rfl rfl (ih (i + 1) (some (.long (jI (exB s f p x (dF s f x (-1) (rLo s c f x) (rM s c f x)) (dL s f p x (-1) (rLo s c f x) (rM s c f x)) (rLo s c f x + i))))) (by omega)); simp only [ryN]; rw [show (-1 : Int32) = iI (-1) from rfl, iI_eq (by omega) (by omega) (by omega) (by omega)] at c184; rw [if_pos ⟨c135, Or.inl c184⟩]; dsimp only; rw [← nI_iI (rLo s c f x + i)] <;> rfl)
          | (refine EV.eq rfl ?_ rfl rfl (ih (i + 1) v15 (by omega)); simp only [ryN]; rw [if_neg (by rw [c135]; simp)] <;> rfl)
        · refine EV.iload (pc := 195) dX5_ray_195 rfl ?_
          refine EV.istore (pc := 197) dX5_ray_197 (by decide) (by dsimp only [lst1, lk] <;> rfl) ?_
          refine EV.lload (pc := 199) dX5_ray_199 rfl ?_
          refine EV.lstore (pc := 201) dX5_ray_201 (by decide) (by dsimp only [lst2, lno, lk] <;> rfl) ?_
          refine EV.iinc (pc := 203) dX5_ray_203 (by decide) rfl (by first | exact nI_inc _ | rfl) (by dsimp only [lst1, lk] <;> rfl) ?_
          refine EV.goto (pc := 206) (tgt := 113) dX5_ray_206 (by decide) ?_
          first
          | (refine EV.eq rfl ?_ rfl rfl (ih (i + 1) (some (.long (jI (exB s f p x (dF s f x (-1) (rLo s c f x) (rM s c f x)) (dL s f p x (-1) (rLo s c f x) (rM s c f x)) (rLo s c f x + i))))) (by omega)); simp only [ryN]; rw [jI_le (by omega) (by omega) (by omega) (by omega)] at c191; rw [show (-1 : Int32) = iI (-1) from rfl, iI_eq (by omega) (by omega) (by omega) (by omega)] at c184; first | (rw [if_neg (by rw [c135]; omega)] <;> rfl) | (rw [if_pos ⟨c135, by omega⟩]; dsimp only; rw [← nI_iI (rLo s c f x + i)] <;> rfl))
          | (refine EV.eq rfl ?_ rfl rfl (ih (i + 1) (some (.long (jI (exB s f p x (dF s f x (-1) (rLo s c f x) (rM s c f x)) (dL s f p x (-1) (rLo s c f x) (rM s c f x)) (rLo s c f x + i))))) (by omega)); simp only [ryN]; rw [show (-1 : Int32) = iI (-1) from rfl, iI_eq (by omega) (by omega) (by omega) (by omega)] at c184; rw [if_pos ⟨c135, Or.inl c184⟩]; dsimp only; rw [← nI_iI (rLo s c f x + i)] <;> rfl)
          | (refine EV.eq rfl ?_ rfl rfl (ih (i + 1) v15 (by omega)); simp only [ryN]; rw [if_neg (by rw [c135]; simp)] <;> rfl)

set_option maxHeartbeats 4000000 in
set_option maxRecDepth 100000 in
theorem l_nray1 {G : eG} {ad : Nat → Nat} {h : Nat → va_E} {s : St} {z : Zm} {hm : Nat → va_E} (hw : MW G ad s z hm h) (c p f x : Nat) (k : Int) (hI : Inv s) (hc : c < 4) (hp : p < 6) (hf : f < 6) (hx : x < s_w s f) (hsw : s_w s p = s_w s f) (hsh : s_h s p = s_h s f) (hk : 0 ≤ k ∧ k ≤ 100) : ∀ (n i : Nat), i + n = (rM s c f x) → EV G M_X5_ray cX5_ray none ad 54 (IS (some (.int (iI (if 3 ≤ (dR s f x (-1) (rLo s c f x) (rM s c f x)) then rayE s f p x (dF s f x (-1) (rLo s c f x) (rM s c f x)) (dL s f p x (-1) (rLo s c f x) (rM s c f x)) (rLo s c f x) (rM s c f x) k else -1)))) h) 19 [some (.ref (ad 34)), some (.int (nI c)), some (.int (nI p)), some (.int (nI f)), some (.int (nI x)), some (.int (iI k)), some (.long (jI (dF s f x (-1) (rLo s c f x) i))), none, some (.long (jI (dL s f p x (-1) (rLo s c f x) i))), none, some (.int (iI (dR s f x (-1) (rLo s c f x) i))), some (.int (nI (rLo s c f x + i))), none, none, none, none, none] [] h := by
  have hdf := hI.1 f hf
  have r1 := rLo_in hI hc hf hx
  have r2 := rHi_in hI hc hf hx
  have r3 := rM_in hI hc hf hx
  have eLo : rLo s c p x = rLo s c f x := by unfold rLo; rw [hsw]
  have eHi : rHi s c p x = rHi s c f x := by unfold rHi; rw [hsw, hsh]
  have hxp : x < s_w s p := by omega
  intro n
  induction n with
  | zero =>
    intro i hi
    have ei : i = (rM s c f x) := by omega
    subst ei
    refine EV.iload (pc := 19) dX5_ray_19 rfl ?_
    refine EV.aload_n (pc := 21) dX5_ray_21 rfl ?_
    refine EV.iload_n (pc := 22) dX5_ray_22 rfl ?_
    refine EV.iload_n (pc := 23) dX5_ray_23 rfl ?_
    refine EV.iload (pc := 24) dX5_ray_24 rfl ?_
    refine EV.callVR1 (pc := 26) (M' := M_X5_lastRow) dX5_ray_26 lkX5_130 okV_X5_lastRow (n_last hw c p x hI hc hp hxp) (by decide) rfl rfl (Nat.le_of_ble_eq_true rfl) (by decide) hw.h34 ?_
    refine EV.topi (y := iI (rHi s c f x)) (by rw [eHi]) ?_
    refine EV.icmp_gt (pc := 29) (tgt := 97) dX5_ray_29 (by decide) (fun _ => ?_) (fun q => absurd (by rw [nI_iI, iI_lt (by omega) (by omega) (by omega) (by omega)]; omega) q)
    refine EV.iconst (pc := 97) (v := -1) dX5_ray_97 (by decide) ?_
    refine EV.istore (pc := 98) dX5_ray_98 (by decide) (by dsimp only [lst1, lk] <;> rfl) ?_
    refine EV.lconst (pc := 100) (v := 0) dX5_ray_100 (by decide) ?_
    refine EV.lstore (pc := 101) dX5_ray_101 (by decide) (by dsimp only [lst2, lno, lk] <;> rfl) ?_
    refine EV.aload_n (pc := 103) dX5_ray_103 rfl ?_
    refine EV.iload_n (pc := 104) dX5_ray_104 rfl ?_
    refine EV.iload_n (pc := 105) dX5_ray_105 rfl ?_
    refine EV.iload (pc := 106) dX5_ray_106 rfl ?_
    refine EV.callVR1 (pc := 108) (M' := M_X5_firstRow) dX5_ray_108 lkX5_127 okV_X5_firstRow (n_first hw c p x hI hc hp hxp) (by decide) rfl rfl (Nat.le_of_ble_eq_true rfl) (by decide) hw.h34 ?_
    refine EV.topi (y := nI (rLo s c f x + 0)) (by rw [eLo]; rfl) ?_
    refine EV.istore (pc := 111) dX5_ray_111 (by decide) (by dsimp only [lst1, lk] <;> rfl) ?_
    exact l_nray2 hw c p f x k hI hc hp hf hx hsw hsh hk (rM s c f x) 0 none (by omega)
  | succ n ih =>
    intro i hi
    have hi2 : i < (rM s c f x) := by omega
    refine EV.iload (pc := 19) dX5_ray_19 rfl ?_
    refine EV.aload_n (pc := 21) dX5_ray_21 rfl ?_
    refine EV.iload_n (pc := 22) dX5_ray_22 rfl ?_
    refine EV.iload_n (pc := 23) dX5_ray_23 rfl ?_
    refine EV.iload (pc := 24) dX5_ray_24 rfl ?_
    refine EV.callVR1 (pc := 26) (M' := M_X5_lastRow) dX5_ray_26 lkX5_130 okV_X5_lastRow (n_last hw c p x hI hc hp hxp) (by decide) rfl rfl (Nat.le_of_ble_eq_true rfl) (by decide) hw.h34 ?_
    refine EV.topi (y := iI (rHi s c f x)) (by rw [eHi]) ?_
    refine EV.icmp_gt (pc := 29) (tgt := 97) dX5_ray_29 (by decide) (fun q => absurd q (by rw [nI_iI, iI_lt (by omega) (by omega) (by omega) (by omega)]; omega)) (fun _ => ?_)
    refine EV.aload_n (pc := 32) dX5_ray_32 rfl ?_
    refine EV.iload_n (pc := 33) dX5_ray_33 rfl ?_
    refine EV.iload (pc := 34) dX5_ray_34 rfl ?_
    refine EV.iload (pc := 36) dX5_ray_36 rfl ?_
    refine EV.callVR1 (pc := 38) (M' := M_X5_isUsed) dX5_ray_38 lkX5_145 okV_X5_isUsed (n_used hw f x (rLo s c f x + i) hf (by omega) (by omega)) (by decide) rfl rfl (Nat.le_of_ble_eq_true rfl) (by decide) hw.h34 ?_
    refine EV.if_eq (pc := 41) (tgt := 91) dX5_ray_41 (by decide) (fun c41 => ?_) (fun c41 => ?_)
    · replace c41 := b2i_eq c41
      refine EV.iinc (pc := 91) dX5_ray_91 (by decide) rfl (by first | exact nI_inc _ | rfl) (by dsimp only [lst1, lk] <;> rfl) ?_
      refine EV.goto (pc := 94) (tgt := 19) dX5_ray_94 (by decide) ?_
      refine EV.eq rfl ?_ rfl rfl (ih (i + 1) (by omega))
      have eu : uE s f x (-1) (rLo s c f x + i) = uR s f x (rLo s c f x + i) := uE_m1
      rw [c41] at eu
      first | (rw [dF_y eu, dL_y eu, dR_y eu] <;> rfl) | (rw [dF_n eu, dL_n eu, dR_n eu] <;> rfl)
    · replace c41 := b2i_ne c41
      refine EV.lload (pc := 44) dX5_ray_44 rfl ?_
      refine EV.aload_n (pc := 46) dX5_ray_46 rfl ?_
      refine EV.aload_n (pc := 47) dX5_ray_47 rfl ?_
      refine EV.getf (pc := 48) dX5_ray_48 fgX5_23 (by decide) hw.h34 rfl ?_
      refine EV.iload_n (pc := 51) dX5_ray_51 rfl ?_
      refine EV.iload (pc := 52) dX5_ray_52 rfl ?_
      refine EV.iload (pc := 54) dX5_ray_54 rfl ?_
      refine EV.callSR1 (pc := 56) (M' := M_X5_place) dX5_ray_56 lkX5_96 okS_X5_place (n_place _ _ _) (by decide) rfl rfl (Nat.le_of_ble_eq_true rfl) ?_
      refine EV.topi (y := nI (400 * f + ((rLo s c f x + i) * 20 + x))) (pl4 f x (rLo s c f x + i)) ?_
      refine EV.iald (pc := 59) dX5_ray_59 (by decide) hw.h39 (vp_in_nI (show 400 * f + ((rLo s c f x + i) * 20 + x) < 2400 by omega) (by omega)) ?_
      refine EV.topi (y := s_ct s f ((rLo s c f x + i) * 20 + x)) (by rw [nI_clamp (by omega)]; exact n_rd (f := s_ct s) (by omega)) ?_
      refine EV.callVR1 (pc := 60) (M' := M_X5_bounded) dX5_ray_60 lkX5_133 okV_X5_bounded (n_bounded _ _) (by decide) rfl rfl (Nat.le_of_ble_eq_true rfl) (by decide) hw.h34 ?_
      refine EV.topl (y := jI (cB s f x (rLo s c f x + i))) rfl ?_
      refine EV.ladd (pc := 63) dX5_ray_63 ?_
      refine EV.topl (y := jI ((dF s f x (-1) (rLo s c f x) i) + cB s f x (rLo s c f x + i))) (jI_add _ _) ?_
      refine EV.lstore (pc := 64) dX5_ray_64 (by decide) (by dsimp only [lst2, lno, lk] <;> rfl) ?_
      refine EV.lload (pc := 66) dX5_ray_66 rfl ?_
      refine EV.aload_n (pc := 68) dX5_ray_68 rfl ?_
      refine EV.aload_n (pc := 69) dX5_ray_69 rfl ?_
      refine EV.getf (pc := 70) dX5_ray_70 fgX5_23 (by decide) hw.h34 rfl ?_
      refine EV.iload_n (pc := 73) dX5_ray_73 rfl ?_
      refine EV.iload (pc := 74) dX5_ray_74 rfl ?_
      refine EV.iload (pc := 76) dX5_ray_76 rfl ?_
      refine EV.callSR1 (pc := 78) (M' := M_X5_place) dX5_ray_78 lkX5_96 okS_X5_place (n_place _ _ _) (by decide) rfl rfl (Nat.le_of_ble_eq_true rfl) ?_
      refine EV.topi (y := nI (400 * p + ((rLo s c f x + i) * 20 + x))) (pl4 p x (rLo s c f x + i)) ?_
      refine EV.iald (pc := 81) dX5_ray_81 (by decide) hw.h39 (vp_in_nI (show 400 * p + ((rLo s c f x + i) * 20 + x) < 2400 by omega) (by omega)) ?_
      refine EV.topi (y := s_ct s p ((rLo s c f x + i) * 20 + x)) (by rw [nI_clamp (by omega)]; exact n_rd (f := s_ct s) (by omega)) ?_
      refine EV.callVR1 (pc := 82) (M' := M_X5_bounded) dX5_ray_82 lkX5_133 okV_X5_bounded (n_bounded _ _) (by decide) rfl rfl (Nat.le_of_ble_eq_true rfl) (by decide) hw.h34 ?_
      refine EV.topl (y := jI (cB s p x (rLo s c f x + i))) rfl ?_
      refine EV.ladd (pc := 85) dX5_ray_85 ?_
      refine EV.topl (y := jI ((dL s f p x (-1) (rLo s c f x) i) + cB s p x (rLo s c f x + i))) (jI_add _ _) ?_
      refine EV.lstore (pc := 86) dX5_ray_86 (by decide) (by dsimp only [lst2, lno, lk] <;> rfl) ?_
      refine EV.iinc (pc := 88) dX5_ray_88 (by decide) rfl (show iI (dR s f x (-1) (rLo s c f x) i) + Int32.ofInt 1 = iI ((dR s f x (-1) (rLo s c f x) i) + 1) from by rw [show Int32.ofInt 1 = iI 1 from rfl, iI_add]) (by dsimp only [lst1, lk] <;> rfl) ?_
      refine EV.iinc (pc := 91) dX5_ray_91 (by decide) rfl (by first | exact nI_inc _ | rfl) (by dsimp only [lst1, lk] <;> rfl) ?_
      refine EV.goto (pc := 94) (tgt := 19) dX5_ray_94 (by decide) ?_
      refine EV.eq rfl ?_ rfl rfl (ih (i + 1) (by omega))
      have eu : uE s f x (-1) (rLo s c f x + i) = uR s f x (rLo s c f x + i) := uE_m1
      rw [c41] at eu
      first | (rw [dF_y eu, dL_y eu, dR_y eu] <;> rfl) | (rw [dF_n eu, dL_n eu, dR_n eu] <;> rfl)

set_option maxHeartbeats 4000000 in
set_option maxRecDepth 100000 in
theorem n_ray {G : eG} {ad : Nat → Nat} {h : Nat → va_E}  {s : St} {z : Zm} {hm : Nat → va_E} (hw : MW G ad s z hm h) (c p f x : Nat) (k : Int) (hI : Inv s) (hc : c < 4) (hp : p < 6) (hf : f < 6) (hx : x < s_w s f) (hsw : s_w s p = s_w s f) (hsh : s_h s p = s_h s f) (hk : 0 ≤ k ∧ k ≤ 100) : MC G M_X5_ray cX5_ray ad 54 [.ref (ad 34), .int (nI c), .int (nI p), .int (nI f), .int (nI x), .int (iI k)] h (IS (some (.int (iI (if 3 ≤ (dR s f x (-1) (rLo s c f x) (rM s c f x)) then rayE s f p x (dF s f x (-1) (rLo s c f x) (rM s c f x)) (dL s f p x (-1) (rLo s c f x) (rM s c f x)) (rLo s c f x) (rM s c f x) k else -1)))) h) := by
  refine MC.of (by decide +kernel) (Nat.le_of_ble_eq_true rfl) (by dsimp only [linit, Nat.reduceSub, List.reduceReplicate] <;> rfl) ?_
  have hdf := hI.1 f hf
  have r1 := rLo_in hI hc hf hx
  have r2 := rHi_in hI hc hf hx
  have r3 := rM_in hI hc hf hx
  have eLo : rLo s c p x = rLo s c f x := by unfold rLo; rw [hsw]
  have eHi : rHi s c p x = rHi s c f x := by unfold rHi; rw [hsw, hsh]
  have hxp : x < s_w s p := by omega
  refine EV.lconst (pc := 0) (v := 0) dX5_ray_0 (by decide) ?_
  refine EV.lstore (pc := 1) dX5_ray_1 (by decide) (by dsimp only [lst2, lno, lk] <;> rfl) ?_
  refine EV.lconst (pc := 3) (v := 0) dX5_ray_3 (by decide) ?_
  refine EV.lstore (pc := 4) dX5_ray_4 (by decide) (by dsimp only [lst2, lno, lk] <;> rfl) ?_
  refine EV.iconst (pc := 6) (v := 0) dX5_ray_6 (by decide) ?_
  refine EV.istore (pc := 7) dX5_ray_7 (by decide) (by dsimp only [lst1, lk] <;> rfl) ?_
  refine EV.aload_n (pc := 9) dX5_ray_9 rfl ?_
  refine EV.iload_n (pc := 10) dX5_ray_10 rfl ?_
  refine EV.iload_n (pc := 11) dX5_ray_11 rfl ?_
  refine EV.iload (pc := 12) dX5_ray_12 rfl ?_
  refine EV.callVR1 (pc := 14) (M' := M_X5_firstRow) dX5_ray_14 lkX5_127 okV_X5_firstRow (n_first hw c p x hI hc hp hxp) (by decide) rfl rfl (Nat.le_of_ble_eq_true rfl) (by decide) hw.h34 ?_
  refine EV.topi (y := nI (rLo s c f x + 0)) (by rw [eLo]; rfl) ?_
  refine EV.istore (pc := 17) dX5_ray_17 (by decide) (by dsimp only [lst1, lk] <;> rfl) ?_
  exact l_nray1 hw c p f x k hI hc hp hf hx hsw hsh hk (rM s c f x) 0 (by omega)

set_option maxHeartbeats 4000000 in
set_option maxRecDepth 100000 in
theorem l_ndrawn {G : eG} {ad : Nat → Nat} {h : Nat → va_E} {s : St} {z : Zm} {hm : Nat → va_E} (hw : MW G ad s z hm h) (c p f x : Nat) (k : Int) (hI : Inv s) (hc : c < 4) (hp : p < 6) (hf : f < 6) (hx : x < s_w s f) (hsw : s_w s p = s_w s f) (hsh : s_h s p = s_h s f) (hk : 0 ≤ k ∧ k ≤ 100) (e : Int) (he : dE s c p f x k = e) (he2 : e = -1 ∨ (0 ≤ e ∧ e ≤ 19)) : ∀ (n i : Nat) (v14 : Option Value), i + n = (rM s c f x) → EV G M_X5_drawn cX5_drawn none ad 54 (IS (some (.long (lN (drw s c p f x k)))) h) 41 [some (.ref (ad 34)), some (.int (nI c)), some (.int (nI p)), some (.int (nI f)), some (.int (nI x)), some (.int (iI k)), some (.int (iI e)), some (.long (jI (dF s f x e (rLo s c f x) i))), none, some (.long (jI (dQ s f x e (rLo s c f x) i))), none, some (.long (jI (dP s f p x e (rLo s c f x) i))), none, some (.int (nI (rLo s c f x + i))), v14, none] [] h := by
  have hdf := hI.1 f hf
  have r1 := rLo_in hI hc hf hx
  have r2 := rHi_in hI hc hf hx
  have r3 := rM_in hI hc hf hx
  have eLo : rLo s c p x = rLo s c f x := by unfold rLo; rw [hsw]
  have eHi : rHi s c p x = rHi s c f x := by unfold rHi; rw [hsw, hsh]
  have hxp : x < s_w s p := by omega
  have r7 := rM_7 hI hc hf hx
  intro n
  induction n with
  | zero =>
    intro i v14 hi
    have ei : i = (rM s c f x) := by omega
    subst ei
    have q1 := dP_in s f p x e (rLo s c f x) (rM s c f x)
    have q2 := dF_in s f x e (rLo s c f x) (rM s c f x)
    have q3 := dQ_in s f x e (rLo s c f x) (rM s c f x)
    have q4 := dV_in (s := s) (f := f) (p := p) (x := x) (e := e) (lo := (rLo s c f x)) r7
    have h1 : 0 ≤ (dP s f p x e (rLo s c f x) (rM s c f x)) * (dF s f x e (rLo s c f x) (rM s c f x)) := Int.mul_nonneg q1.1 q2.1
    have h2 : (dP s f p x e (rLo s c f x) (rM s c f x)) * (dF s f x e (rLo s c f x) (rM s c f x)) ≤ 200000000000 * 2000000 := Int.mul_le_mul (by omega) (by omega) q2.1 (by omega)
    refine EV.iload (pc := 41) dX5_drawn_41 rfl ?_
    refine EV.aload_n (pc := 43) dX5_drawn_43 rfl ?_
    refine EV.iload_n (pc := 44) dX5_drawn_44 rfl ?_
    refine EV.iload_n (pc := 45) dX5_drawn_45 rfl ?_
    refine EV.iload (pc := 46) dX5_drawn_46 rfl ?_
    refine EV.callVR1 (pc := 48) (M' := M_X5_lastRow) dX5_drawn_48 lkX5_130 okV_X5_lastRow (n_last hw c p x hI hc hp hxp) (by decide) rfl rfl (Nat.le_of_ble_eq_true rfl) (by decide) hw.h34 ?_
    refine EV.topi (y := iI (rHi s c f x)) (by rw [eHi]) ?_
    refine EV.icmp_gt (pc := 51) (tgt := 140) dX5_drawn_51 (by decide) (fun _ => ?_) (fun q => absurd (by rw [nI_iI, iI_lt (by omega) (by omega) (by omega) (by omega)]; omega) q)
    refine EV.lload (pc := 140) dX5_drawn_140 rfl ?_
    refine EV.lconst (pc := 142) (v := 0) dX5_drawn_142 (by decide) ?_
    refine EV.lcmp_ne (pc := 143) (tgt := 151) dX5_drawn_143 dX5_drawn_144 (by decide) (fun c143 => ?_) (fun c143 => ?_)
    · refine EV.lload (pc := 151) dX5_drawn_151 rfl ?_
      refine EV.lload (pc := 153) dX5_drawn_153 rfl ?_
      refine EV.lmul (pc := 155) dX5_drawn_155 ?_
      refine EV.topl (y := jI ((dP s f p x e (rLo s c f x) (rM s c f x)) * (dF s f x e (rLo s c f x) (rM s c f x)))) (jI_mul _ _) ?_
      refine EV.lload (pc := 156) dX5_drawn_156 rfl ?_
      refine EV.ldiv (pc := 158) dX5_drawn_158 c143 ?_
      refine EV.lret (pc := 159) dX5_drawn_159 trivial ?_
      refine ⟨congrArg (fun z => some (Value.long z)) ?_, rfl⟩
      rw [show (0 : Int64) = jI 0 from jI_lit 0, jI_eq (by omega) (by omega) (by omega) (by omega)] at c143
      unfold drw
      rw [he, lN_jI, Int.toNat_of_nonneg q4.1]
      unfold dV
      first | (rw [if_pos (by omega), jI_tdiv (by omega) (by omega) (by omega) (by omega), fl_pos h1]) | (rw [if_neg (by omega)]; rfl)
    · refine EV.lconst (pc := 147) (v := 0) dX5_drawn_147 (by decide) ?_
      refine EV.goto (pc := 148) (tgt := 159) dX5_drawn_148 (by decide) ?_
      refine EV.lret (pc := 159) dX5_drawn_159 trivial ?_
      refine ⟨congrArg (fun z => some (Value.long z)) ?_, rfl⟩
      rw [show (0 : Int64) = jI 0 from jI_lit 0, jI_eq (by omega) (by omega) (by omega) (by omega)] at c143
      unfold drw
      rw [he, lN_jI, Int.toNat_of_nonneg q4.1]
      unfold dV
      first | (rw [if_pos (by omega), jI_tdiv (by omega) (by omega) (by omega) (by omega), fl_pos h1]) | (rw [if_neg (by omega)]; rfl)
  | succ n ih =>
    intro i v14 hi
    have hi2 : i < (rM s c f x) := by omega
    refine EV.iload (pc := 41) dX5_drawn_41 rfl ?_
    refine EV.aload_n (pc := 43) dX5_drawn_43 rfl ?_
    refine EV.iload_n (pc := 44) dX5_drawn_44 rfl ?_
    refine EV.iload_n (pc := 45) dX5_drawn_45 rfl ?_
    refine EV.iload (pc := 46) dX5_drawn_46 rfl ?_
    refine EV.callVR1 (pc := 48) (M' := M_X5_lastRow) dX5_drawn_48 lkX5_130 okV_X5_lastRow (n_last hw c p x hI hc hp hxp) (by decide) rfl rfl (Nat.le_of_ble_eq_true rfl) (by decide) hw.h34 ?_
    refine EV.topi (y := iI (rHi s c f x)) (by rw [eHi]) ?_
    refine EV.icmp_gt (pc := 51) (tgt := 140) dX5_drawn_51 (by decide) (fun q => absurd q (by rw [nI_iI, iI_lt (by omega) (by omega) (by omega) (by omega)]; omega)) (fun _ => ?_)
    refine EV.aload_n (pc := 54) dX5_drawn_54 rfl ?_
    refine EV.iload_n (pc := 55) dX5_drawn_55 rfl ?_
    refine EV.iload (pc := 56) dX5_drawn_56 rfl ?_
    refine EV.iload (pc := 58) dX5_drawn_58 rfl ?_
    refine EV.callVR1 (pc := 60) (M' := M_X5_isUsed) dX5_drawn_60 lkX5_145 okV_X5_isUsed (n_used hw f x (rLo s c f x + i) hf (by omega) (by omega)) (by decide) rfl rfl (Nat.le_of_ble_eq_true rfl) (by decide) hw.h34 ?_
    refine EV.if_eq (pc := 63) (tgt := 134) dX5_drawn_63 (by decide) (fun c63 => ?_) (fun c63 => ?_)
    · replace c63 := b2i_eq c63
      refine EV.iinc (pc := 134) dX5_drawn_134 (by decide) rfl (by first | exact nI_inc _ | rfl) (by dsimp only [lst1, lk] <;> rfl) ?_
      refine EV.goto (pc := 137) (tgt := 41) dX5_drawn_137 (by decide) ?_
      first
      | (rw [nI_iI, iI_eq (by omega) (by omega) (by omega) (by omega)] at c70; first | (refine EV.eq rfl ?_ rfl rfl (ih (i + 1) (some (.long (jI (cB s f x (rLo s c f x + i))))) (by omega)); rw [dF_y (uE_yes c63 c70), dQ_y (uE_yes c63 c70), dP_y (uE_yes c63 c70)] <;> rfl) | (refine EV.eq rfl ?_ rfl rfl (ih (i + 1) v14 (by omega)); rw [dF_n (uE_no1 c70), dQ_n (uE_no1 c70), dP_n (uE_no1 c70)] <;> rfl))
      | (refine EV.eq rfl ?_ rfl rfl (ih (i + 1) v14 (by omega)); rw [dF_n (uE_no2 c63), dQ_n (uE_no2 c63), dP_n (uE_no2 c63)] <;> rfl)
    · replace c63 := b2i_ne c63
      refine EV.iload (pc := 66) dX5_drawn_66 rfl ?_
      refine EV.iload (pc := 68) dX5_drawn_68 rfl ?_
      refine EV.icmp_eq (pc := 70) (tgt := 134) dX5_drawn_70 (by decide) (fun c70 => ?_) (fun c70 => ?_)
      · refine EV.iinc (pc := 134) dX5_drawn_134 (by decide) rfl (by first | exact nI_inc _ | rfl) (by dsimp only [lst1, lk] <;> rfl) ?_
        refine EV.goto (pc := 137) (tgt := 41) dX5_drawn_137 (by decide) ?_
        first
        | (rw [nI_iI, iI_eq (by omega) (by omega) (by omega) (by omega)] at c70; first | (refine EV.eq rfl ?_ rfl rfl (ih (i + 1) (some (.long (jI (cB s f x (rLo s c f x + i))))) (by omega)); rw [dF_y (uE_yes c63 c70), dQ_y (uE_yes c63 c70), dP_y (uE_yes c63 c70)] <;> rfl) | (refine EV.eq rfl ?_ rfl rfl (ih (i + 1) v14 (by omega)); rw [dF_n (uE_no1 c70), dQ_n (uE_no1 c70), dP_n (uE_no1 c70)] <;> rfl))
        | (refine EV.eq rfl ?_ rfl rfl (ih (i + 1) v14 (by omega)); rw [dF_n (uE_no2 c63), dQ_n (uE_no2 c63), dP_n (uE_no2 c63)] <;> rfl)
      · refine EV.aload_n (pc := 73) dX5_drawn_73 rfl ?_
        refine EV.aload_n (pc := 74) dX5_drawn_74 rfl ?_
        refine EV.getf (pc := 75) dX5_drawn_75 fgX5_23 (by decide) hw.h34 rfl ?_
        refine EV.iload_n (pc := 78) dX5_drawn_78 rfl ?_
        refine EV.iload (pc := 79) dX5_drawn_79 rfl ?_
        refine EV.iload (pc := 81) dX5_drawn_81 rfl ?_
        refine EV.callSR1 (pc := 83) (M' := M_X5_place) dX5_drawn_83 lkX5_96 okS_X5_place (n_place _ _ _) (by decide) rfl rfl (Nat.le_of_ble_eq_true rfl) ?_
        refine EV.topi (y := nI (400 * f + ((rLo s c f x + i) * 20 + x))) (pl4 f x (rLo s c f x + i)) ?_
        refine EV.iald (pc := 86) dX5_drawn_86 (by decide) hw.h39 (vp_in_nI (show 400 * f + ((rLo s c f x + i) * 20 + x) < 2400 by omega) (by omega)) ?_
        refine EV.topi (y := s_ct s f ((rLo s c f x + i) * 20 + x)) (by rw [nI_clamp (by omega)]; exact n_rd (f := s_ct s) (by omega)) ?_
        refine EV.callVR1 (pc := 87) (M' := M_X5_bounded) dX5_drawn_87 lkX5_133 okV_X5_bounded (n_bounded _ _) (by decide) rfl rfl (Nat.le_of_ble_eq_true rfl) (by decide) hw.h34 ?_
        refine EV.topl (y := jI (cB s f x (rLo s c f x + i))) rfl ?_
        refine EV.lstore (pc := 90) dX5_drawn_90 (by decide) (by dsimp only [lst2, lno, lk] <;> rfl) ?_
        refine EV.lload (pc := 92) dX5_drawn_92 rfl ?_
        refine EV.lload (pc := 94) dX5_drawn_94 rfl ?_
        refine EV.ladd (pc := 96) dX5_drawn_96 ?_
        refine EV.topl (y := jI ((dF s f x e (rLo s c f x) i) + cB s f x (rLo s c f x + i))) (jI_add _ _) ?_
        refine EV.lstore (pc := 97) dX5_drawn_97 (by decide) (by dsimp only [lst2, lno, lk] <;> rfl) ?_
        refine EV.lload (pc := 99) dX5_drawn_99 rfl ?_
        refine EV.lload (pc := 101) dX5_drawn_101 rfl ?_
        refine EV.lload (pc := 103) dX5_drawn_103 rfl ?_
        refine EV.lmul (pc := 105) dX5_drawn_105 ?_
        refine EV.ladd (pc := 106) dX5_drawn_106 ?_
        refine EV.topl (y := jI ((dQ s f x e (rLo s c f x) i) + cB s f x (rLo s c f x + i) * cB s f x (rLo s c f x + i))) (by rw [jI_mul, jI_add]) ?_
        refine EV.lstore (pc := 107) dX5_drawn_107 (by decide) (by dsimp only [lst2, lno, lk] <;> rfl) ?_
        refine EV.lload (pc := 109) dX5_drawn_109 rfl ?_
        refine EV.lload (pc := 111) dX5_drawn_111 rfl ?_
        refine EV.aload_n (pc := 113) dX5_drawn_113 rfl ?_
        refine EV.aload_n (pc := 114) dX5_drawn_114 rfl ?_
        refine EV.getf (pc := 115) dX5_drawn_115 fgX5_23 (by decide) hw.h34 rfl ?_
        refine EV.iload_n (pc := 118) dX5_drawn_118 rfl ?_
        refine EV.iload (pc := 119) dX5_drawn_119 rfl ?_
        refine EV.iload (pc := 121) dX5_drawn_121 rfl ?_
        refine EV.callSR1 (pc := 123) (M' := M_X5_place) dX5_drawn_123 lkX5_96 okS_X5_place (n_place _ _ _) (by decide) rfl rfl (Nat.le_of_ble_eq_true rfl) ?_
        refine EV.topi (y := nI (400 * p + ((rLo s c f x + i) * 20 + x))) (pl4 p x (rLo s c f x + i)) ?_
        refine EV.iald (pc := 126) dX5_drawn_126 (by decide) hw.h39 (vp_in_nI (show 400 * p + ((rLo s c f x + i) * 20 + x) < 2400 by omega) (by omega)) ?_
        refine EV.topi (y := s_ct s p ((rLo s c f x + i) * 20 + x)) (by rw [nI_clamp (by omega)]; exact n_rd (f := s_ct s) (by omega)) ?_
        refine EV.callVR1 (pc := 127) (M' := M_X5_bounded) dX5_drawn_127 lkX5_133 okV_X5_bounded (n_bounded _ _) (by decide) rfl rfl (Nat.le_of_ble_eq_true rfl) (by decide) hw.h34 ?_
        refine EV.topl (y := jI (cB s p x (rLo s c f x + i))) rfl ?_
        refine EV.lmul (pc := 130) dX5_drawn_130 ?_
        refine EV.ladd (pc := 131) dX5_drawn_131 ?_
        refine EV.topl (y := jI ((dP s f p x e (rLo s c f x) i) + cB s f x (rLo s c f x + i) * cB s p x (rLo s c f x + i))) (by rw [jI_mul, jI_add]) ?_
        refine EV.lstore (pc := 132) dX5_drawn_132 (by decide) (by dsimp only [lst2, lno, lk] <;> rfl) ?_
        refine EV.iinc (pc := 134) dX5_drawn_134 (by decide) rfl (by first | exact nI_inc _ | rfl) (by dsimp only [lst1, lk] <;> rfl) ?_
        refine EV.goto (pc := 137) (tgt := 41) dX5_drawn_137 (by decide) ?_
        first
        | (rw [nI_iI, iI_eq (by omega) (by omega) (by omega) (by omega)] at c70; first | (refine EV.eq rfl ?_ rfl rfl (ih (i + 1) (some (.long (jI (cB s f x (rLo s c f x + i))))) (by omega)); rw [dF_y (uE_yes c63 c70), dQ_y (uE_yes c63 c70), dP_y (uE_yes c63 c70)] <;> rfl) | (refine EV.eq rfl ?_ rfl rfl (ih (i + 1) v14 (by omega)); rw [dF_n (uE_no1 c70), dQ_n (uE_no1 c70), dP_n (uE_no1 c70)] <;> rfl))
        | (refine EV.eq rfl ?_ rfl rfl (ih (i + 1) v14 (by omega)); rw [dF_n (uE_no2 c63), dQ_n (uE_no2 c63), dP_n (uE_no2 c63)] <;> rfl)

set_option maxHeartbeats 4000000 in
set_option maxRecDepth 100000 in
theorem n_drawn {G : eG} {ad : Nat → Nat} {h : Nat → va_E}  {s : St} {z : Zm} {hm : Nat → va_E} (hw : MW G ad s z hm h) (c p f x : Nat) (k : Int) (hI : Inv s) (hc : c < 4) (hp : p < 6) (hf : f < 6) (hx : x < s_w s f) (hsw : s_w s p = s_w s f) (hsh : s_h s p = s_h s f) (hk : 0 ≤ k ∧ k ≤ 100) : MC G M_X5_drawn cX5_drawn ad 54 [.ref (ad 34), .int (nI c), .int (nI p), .int (nI f), .int (nI x), .int (iI k)] h (IS (some (.long (lN (drw s c p f x k)))) h) := by
  refine MC.of (by decide +kernel) (Nat.le_of_ble_eq_true rfl) (by dsimp only [linit, Nat.reduceSub, List.reduceReplicate] <;> rfl) ?_
  have hdf := hI.1 f hf
  have r1 := rLo_in hI hc hf hx
  have r2 := rHi_in hI hc hf hx
  have r3 := rM_in hI hc hf hx
  have eLo : rLo s c p x = rLo s c f x := by unfold rLo; rw [hsw]
  have eHi : rHi s c p x = rHi s c f x := by unfold rHi; rw [hsw, hsh]
  have hxp : x < s_w s p := by omega
  have g1 := dF_in s f x (-1) (rLo s c f x) (rM s c f x)
  have g2 := dL_in s f p x (-1) (rLo s c f x) (rM s c f x)
  have q8 := rayE_in (s := s) (f := f) (p := p) (x := x) (F := (dF s f x (-1) (rLo s c f x) (rM s c f x))) (L := (dL s f p x (-1) (rLo s c f x) (rM s c f x))) (lo := (rLo s c f x)) (n := (rM s c f x)) (k := k) (by omega) (by omega) (by omega)
  have q9 : dE s c p f x k = -1 ∨ (0 ≤ dE s c p f x k ∧ dE s c p f x k ≤ 19) := by unfold dE; split <;> first | exact q8 | exact Or.inl rfl
  have ek := iI_toInt (a := k) (by omega) (by omega)
  refine EV.iload (pc := 0) dX5_drawn_0 rfl ?_
  refine EV.if_ne (pc := 2) (tgt := 9) dX5_drawn_2 (by decide) (fun c2 => ?_) (fun c2 => ?_)
  · try simp only [← Int32.toInt_inj, i_l0, ek] at c2
    refine EV.aload_n (pc := 9) dX5_drawn_9 rfl ?_
    refine EV.iload_n (pc := 10) dX5_drawn_10 rfl ?_
    refine EV.iload_n (pc := 11) dX5_drawn_11 rfl ?_
    refine EV.iload_n (pc := 12) dX5_drawn_12 rfl ?_
    refine EV.iload (pc := 13) dX5_drawn_13 rfl ?_
    refine EV.iload (pc := 15) dX5_drawn_15 rfl ?_
    refine EV.callVR1 (pc := 17) (M' := M_X5_ray) dX5_drawn_17 lkX5_148 okV_X5_ray (n_ray hw c p f x k hI hc hp hf hx hsw hsh hk) (by decide) rfl rfl (Nat.le_of_ble_eq_true rfl) (by decide) hw.h34 ?_
    refine EV.topi (y := iI (dE s c p f x k)) (by unfold dE; apply iI_b; split <;> split <;> first | rfl | omega) ?_
    refine EV.istore (pc := 20) dX5_drawn_20 (by decide) (by dsimp only [lst1, lk] <;> rfl) ?_
    refine EV.lconst (pc := 22) (v := 0) dX5_drawn_22 (by decide) ?_
    refine EV.lstore (pc := 23) dX5_drawn_23 (by decide) (by dsimp only [lst2, lno, lk] <;> rfl) ?_
    refine EV.lconst (pc := 25) (v := 0) dX5_drawn_25 (by decide) ?_
    refine EV.lstore (pc := 26) dX5_drawn_26 (by decide) (by dsimp only [lst2, lno, lk] <;> rfl) ?_
    refine EV.lconst (pc := 28) (v := 0) dX5_drawn_28 (by decide) ?_
    refine EV.lstore (pc := 29) dX5_drawn_29 (by decide) (by dsimp only [lst2, lno, lk] <;> rfl) ?_
    refine EV.aload_n (pc := 31) dX5_drawn_31 rfl ?_
    refine EV.iload_n (pc := 32) dX5_drawn_32 rfl ?_
    refine EV.iload_n (pc := 33) dX5_drawn_33 rfl ?_
    refine EV.iload (pc := 34) dX5_drawn_34 rfl ?_
    refine EV.callVR1 (pc := 36) (M' := M_X5_firstRow) dX5_drawn_36 lkX5_127 okV_X5_firstRow (n_first hw c p x hI hc hp hxp) (by decide) rfl rfl (Nat.le_of_ble_eq_true rfl) (by decide) hw.h34 ?_
    refine EV.topi (y := nI (rLo s c f x + 0)) (by rw [eLo]; rfl) ?_
    refine EV.istore (pc := 39) dX5_drawn_39 (by decide) (by dsimp only [lst1, lk] <;> rfl) ?_
    exact l_ndrawn hw c p f x k hI hc hp hf hx hsw hsh hk (dE s c p f x k) rfl q9 (rM s c f x) 0 none (by omega)
  · try simp only [← Int32.toInt_inj, i_l0, ek] at c2
    refine EV.iconst (pc := 5) (v := -1) dX5_drawn_5 (by decide) ?_
    refine EV.topi (y := iI (dE s c p f x k)) (by unfold dE; rw [if_neg (by omega)]; rfl) ?_
    refine EV.goto (pc := 6) (tgt := 20) dX5_drawn_6 (by decide) ?_
    refine EV.istore (pc := 20) dX5_drawn_20 (by decide) (by dsimp only [lst1, lk] <;> rfl) ?_
    refine EV.lconst (pc := 22) (v := 0) dX5_drawn_22 (by decide) ?_
    refine EV.lstore (pc := 23) dX5_drawn_23 (by decide) (by dsimp only [lst2, lno, lk] <;> rfl) ?_
    refine EV.lconst (pc := 25) (v := 0) dX5_drawn_25 (by decide) ?_
    refine EV.lstore (pc := 26) dX5_drawn_26 (by decide) (by dsimp only [lst2, lno, lk] <;> rfl) ?_
    refine EV.lconst (pc := 28) (v := 0) dX5_drawn_28 (by decide) ?_
    refine EV.lstore (pc := 29) dX5_drawn_29 (by decide) (by dsimp only [lst2, lno, lk] <;> rfl) ?_
    refine EV.aload_n (pc := 31) dX5_drawn_31 rfl ?_
    refine EV.iload_n (pc := 32) dX5_drawn_32 rfl ?_
    refine EV.iload_n (pc := 33) dX5_drawn_33 rfl ?_
    refine EV.iload (pc := 34) dX5_drawn_34 rfl ?_
    refine EV.callVR1 (pc := 36) (M' := M_X5_firstRow) dX5_drawn_36 lkX5_127 okV_X5_firstRow (n_first hw c p x hI hc hp hxp) (by decide) rfl rfl (Nat.le_of_ble_eq_true rfl) (by decide) hw.h34 ?_
    refine EV.topi (y := nI (rLo s c f x + 0)) (by rw [eLo]; rfl) ?_
    refine EV.istore (pc := 39) dX5_drawn_39 (by decide) (by dsimp only [lst1, lk] <;> rfl) ?_
    exact l_ndrawn hw c p f x k hI hc hp hf hx hsw hsh hk (dE s c p f x k) rfl q9 (rM s c f x) 0 none (by omega)

theorem MW.dropL {G : eG} {ad : Nat → Nat} {s : St} {z : Zm} {hm h : Nat → va_E} {k : Nat} (hw : MW G ad s z hm h) (hl : s_li s k = false) : MW G ad (S_lF (S_lB (S_lA s (va_up (s_lA s) k 0)) (va_up (s_lB s) k 0)) (va_up (s_lF s) k 0)) z hm h := by
  obtain ⟨a1, a2, a3, a4, a5, a6, a7, a8, a9, a10, a11, a12, a13, a14, a15, a16, a17, a18, a19, a20, jk, fr⟩ := hw
  refine ⟨a1, a2, a3, a4, a5, a6, a7, a8, a9, a10, a11, a12, a13, a14, a15, a16, a17, a18, a19, a20, fun c hc hlc => ?_, fr⟩
  have hne : c ≠ k := by
    intro e
    subst e
    have h2 : s_li s c = true := hlc
    rw [hl] at h2
    cases h2
  have q := jk c hc hlc
  show m_jA z c = va_up (s_lA s) k 0 c ∧ m_jB z c = va_up (s_lB s) k 0 c ∧ m_jF z c = va_up (s_lF s) k 0 c
  rw [va_up_n hne, va_up_n hne, va_up_n hne]
  exact q
def sX (s : St) (c p f : Nat) (k : Int) (i : Nat) : St := S_lF (S_lB (S_lA (S_li (sD s c p f k i) (va_up (s_li s) c false)) (va_up (s_lA s) c 0)) (va_up (s_lB s) c 0)) (va_up (s_lF s) c 0)
theorem ryN_sX {s : St} {c p f : Nat} {k : Int} {i : Nat} {p2 f2 x : Nat} {F L : Int} {lo : Nat} : ∀ n, ryN (sX s c p f k i) f2 p2 x F L lo n = ryN s f2 p2 x F L lo n
  | 0 => rfl
  | n + 1 => by
    simp only [ryN]
    rw [ryN_sX n]
    rfl
theorem rayE_sX {s : St} {c p f : Nat} {k : Int} {i : Nat} {p2 f2 x : Nat} {F L : Int} {lo n : Nat} {k2 : Int} : rayE (sX s c p f k i) f2 p2 x F L lo n k2 = rayE s f2 p2 x F L lo n k2 := by
  unfold rayE
  rw [ryN_sX]
  rfl
theorem drw_sX {s : St} {c p f : Nat} {k : Int} {i : Nat} {x : Nat} : drw (sX s c p f k i) c p f x k = drw s c p f x k := by
  have e1 : dE (sX s c p f k i) c p f x k = dE s c p f x k := by
    unfold dE
    rw [rayE_sX]
    rfl
  unfold drw
  rw [e1]
  rfl
theorem Inv.sX {s : St} {c p f : Nat} {k : Int} {i : Nat} (hI : Inv s) (hc : c < 4) (hp : p < 6) (hf : f < 6) (hi : i ≤ s_w s f) : Inv (sX s c p f k i) := by
  obtain ⟨hI1, hI2, hI3, hI4, hI5, hI6, hI7, hI8, hI9, hI10, hI11, hI12, hI13⟩ := hI.sD (k := k) hc hp hf hi
  refine ⟨hI1, hI2, hI3, hI4, hI5, ?_, ?_, hI8, hI9, hI10, hI11, hI12, hI13⟩
  · intro c2 hc2 hl
    by_cases e : c2 = c
    · subst e
      have h2 : va_up (s_li s) c2 false c2 = true := hl
      rw [va_up_s] at h2
      cases h2
    · have h2 : va_up (s_li s) c false c2 = true := hl
      rw [va_up_n e] at h2
      have q := hI6 c2 hc2 h2
      show -1000000 ≤ (va_up (s_lA s) c 0 c2).toInt ∧ (va_up (s_lA s) c 0 c2).toInt ≤ 1000000 ∧ 1 ≤ (va_up (s_lB s) c 0 c2).toInt ∧ (va_up (s_lB s) c 0 c2).toInt ≤ 100000
      rw [va_up_n e, va_up_n e]
      exact q
  · intro c2 hc2 hl
    show va_up (s_lA s) c 0 c2 = 0 ∧ va_up (s_lB s) c 0 c2 = 0 ∧ va_up (s_lF s) c 0 c2 = 0
    by_cases e : c2 = c
    · subst e
      rw [va_up_s, va_up_s, va_up_s]
      exact ⟨rfl, rfl, rfl⟩
    · have h2 : va_up (s_li s) c false c2 = false := hl
      rw [va_up_n e] at h2
      rw [va_up_n e, va_up_n e, va_up_n e]
      exact hI7 c2 hc2 h2

theorem sX_w {s : St} {c p f : Nat} {k : Int} {i : Nat} : s_w (sX s c p f k i) = s_w s := by
  unfold sX sD
  generalize nmD s c p f k i = F
  obtain ⟨a1, a2, a3, a4, a5, a6, a7, a8, a9, a10, a11, a12, a13, a14, a15, a16, a17, a18, a19, a20, a21, a22, a23, a24⟩ := s
  rfl
theorem sX_h {s : St} {c p f : Nat} {k : Int} {i : Nat} : s_h (sX s c p f k i) = s_h s := by
  unfold sX sD
  generalize nmD s c p f k i = F
  obtain ⟨a1, a2, a3, a4, a5, a6, a7, a8, a9, a10, a11, a12, a13, a14, a15, a16, a17, a18, a19, a20, a21, a22, a23, a24⟩ := s
  rfl
theorem sX_co {s : St} {c p f : Nat} {k : Int} {i : Nat} : s_co (sX s c p f k i) c = s_w s p := by
  unfold sX sD
  generalize nmD s c p f k i = F
  obtain ⟨a1, a2, a3, a4, a5, a6, a7, a8, a9, a10, a11, a12, a13, a14, a15, a16, a17, a18, a19, a20, a21, a22, a23, a24⟩ := s
  exact va_up_s
theorem sX_s {s : St} {c p f : Nat} {k : Int} {i : Nat} : S_nm (sX s c p f k i) (va_up (s_nm (sX s c p f k i)) c (va_up (s_nm (sX s c p f k i) c) i (drw s c p f i k))) = sX s c p f k (i + 1) := by
  have e1 : s_nm (sX s c p f k i) = va_up (s_nm s) c (nmD s c p f k i) := by
    unfold sX sD
    generalize nmD s c p f k i = F
    obtain ⟨a1, a2, a3, a4, a5, a6, a7, a8, a9, a10, a11, a12, a13, a14, a15, a16, a17, a18, a19, a20, a21, a22, a23, a24⟩ := s
    rfl
  rw [e1, bx_uu, va_up_s, nmD_s]
  unfold sX sD
  generalize nmD s c p f k i = F
  generalize nmD s c p f k (i + 1) = F2
  obtain ⟨a1, a2, a3, a4, a5, a6, a7, a8, a9, a10, a11, a12, a13, a14, a15, a16, a17, a18, a19, a20, a21, a22, a23, a24⟩ := s
  simp only [S_nm, S_lF, S_lB, S_lA, S_li, S_co, s_co, s_w, s_li, s_lA, s_lB, s_lF, s_nm]
theorem sX_0 {s : St} {c p f : Nat} {k : Int} : S_lF (S_lB (S_lA (S_li (S_co s (va_up (s_co s) c (s_w s p))) (va_up (s_li (S_co s (va_up (s_co s) c (s_w s p)))) c false)) (va_up (s_lA (S_li (S_co s (va_up (s_co s) c (s_w s p))) (va_up (s_li (S_co s (va_up (s_co s) c (s_w s p)))) c false))) c 0)) (va_up (s_lB (S_li (S_co s (va_up (s_co s) c (s_w s p))) (va_up (s_li (S_co s (va_up (s_co s) c (s_w s p)))) c false))) c 0)) (va_up (s_lF (S_li (S_co s (va_up (s_co s) c (s_w s p))) (va_up (s_li (S_co s (va_up (s_co s) c (s_w s p)))) c false))) c 0) = sX s c p f k 0 := by
  have e4 : nmD s c p f k 0 = s_nm s c := by funext x; simp [nmD]
  unfold sX sD
  rw [e4, va_up_id]
theorem sX_E {s : St} {c p f : Nat} {k : Int} : sX s c p f k (s_w s p) = sE s c p f k := rfl
theorem nq_T {b : Bool} (h : (!b) = false) : b = true := by cases b <;> simp at h ⊢
theorem nq_F {b : Bool} (h : (!b) = true) : b = false := by cases b <;> simp at h ⊢

set_option maxHeartbeats 4000000 in
set_option maxRecDepth 100000 in
theorem l_ndraw {G : eG} {ad : Nat → Nat} {s : St} {z : Zm} {hm : Nat → va_E} (c p f k : Nat) (hI : Inv s) (hc : c < 4) (hp : p < 6) (hf : f < 6) (hsw : s_w s p = s_w s f) (hsh : s_h s p = s_h s f) (hk : k ≤ 100) : ∀ (n i : Nat) (h : Nat → va_E), i + n = s_w s p → MW G ad (sX s c p f (k : Int) i) z hm h → EV G M_X5_draw cX5_draw none ad 54 (PM G ad hm (.int (nI (s_w s p))) (sE s c p f (k : Int))) 104 [some (.ref (ad 34)), some (.int (nI c)), some (.int (nI p)), some (.int (nI f)), some (.int (nI k)), some (.int (nI i))] [] h := by
  have hdp := hI.1 p hp
  intro n
  induction n with
  | zero =>
    intro i h hi hw
    have ei : i = s_w s p := by omega
    subst ei
    generalize hT : sX s c p f (k : Int) (s_w s p) = t at hw
    have ew : s_w t = s_w s := by rw [← hT]; exact sX_w
    have eh : s_h t = s_h s := by rw [← hT]; exact sX_h
    have eco : s_co t c = s_w s p := by rw [← hT]; exact sX_co
    have hIt : Inv t := by rw [← hT]; exact hI.sX hc hp hf (by omega)
    refine EV.iload (pc := 104) dX5_draw_104 rfl ?_
    refine EV.aload_n (pc := 106) dX5_draw_106 rfl ?_
    refine EV.getf (pc := 107) dX5_draw_107 fgX5_17 (by decide) hw.h34 rfl ?_
    refine EV.iload_n (pc := 110) dX5_draw_110 rfl ?_
    refine EV.iald (pc := 111) dX5_draw_111 (by decide) hw.h37 (vp_in_nI (show p < 6 by omega) (by omega)) ?_
    refine EV.topi (y := nI (s_w s p)) (by rw [nI_clamp (by omega), ew]) ?_
    refine EV.icmp_ge (pc := 112) (tgt := 144) dX5_draw_112 (by decide) (fun _ => ?_) (fun q => absurd ((nI_leI (a := s_w s p) (b := s_w s p) (by omega) (by omega)).mpr (Nat.le_refl _)) q)
    refine EV.aload_n (pc := 144) dX5_draw_144 rfl ?_
    refine EV.getf (pc := 145) dX5_draw_145 fgX5_38 (by decide) hw.h34 rfl ?_
    refine EV.iload_n (pc := 148) dX5_draw_148 rfl ?_
    refine EV.iald (pc := 149) dX5_draw_149 (by decide) hw.h44 (vp_in_nI (show c < 4 by omega) (by omega)) ?_
    refine EV.topi (y := nI (s_w s p)) (by rw [nI_clamp (by omega), eco]) ?_
    refine EV.iret (pc := 150) dX5_draw_150 trivial ?_
    rw [← hT, sX_E] at hw
    exact ⟨rfl, z, hw⟩
  | succ n ih =>
    intro i h hi hw
    have hi2 : i < s_w s p := by omega
    generalize hT : sX s c p f (k : Int) i = t at hw
    have ew : s_w t = s_w s := by rw [← hT]; exact sX_w
    have eh : s_h t = s_h s := by rw [← hT]; exact sX_h
    have eco : s_co t c = s_w s p := by rw [← hT]; exact sX_co
    have hIt : Inv t := by rw [← hT]; exact hI.sX hc hp hf (by omega)
    refine EV.iload (pc := 104) dX5_draw_104 rfl ?_
    refine EV.aload_n (pc := 106) dX5_draw_106 rfl ?_
    refine EV.getf (pc := 107) dX5_draw_107 fgX5_17 (by decide) hw.h34 rfl ?_
    refine EV.iload_n (pc := 110) dX5_draw_110 rfl ?_
    refine EV.iald (pc := 111) dX5_draw_111 (by decide) hw.h37 (vp_in_nI (show p < 6 by omega) (by omega)) ?_
    refine EV.topi (y := nI (s_w s p)) (by rw [nI_clamp (by omega), ew]) ?_
    refine EV.icmp_ge (pc := 112) (tgt := 144) dX5_draw_112 (by decide) (fun q => absurd q (fun z => absurd ((nI_leI (a := s_w s p) (b := i) (by omega) (by omega)).mp z) (by omega))) (fun _ => ?_)
    refine EV.aload_n (pc := 115) dX5_draw_115 rfl ?_
    refine EV.getf (pc := 116) dX5_draw_116 fgX5_41 (by decide) hw.h34 rfl ?_
    refine EV.bipush (pc := 119) (v := 20) dX5_draw_119 (by decide) ?_
    refine EV.iload_n (pc := 121) dX5_draw_121 rfl ?_
    refine EV.imul (pc := 122) dX5_draw_122 ?_
    refine EV.iload (pc := 123) dX5_draw_123 rfl ?_
    refine EV.iadd (pc := 125) dX5_draw_125 ?_
    refine EV.topi (y := nI (20 * c + i)) (ix2 c i) ?_
    refine EV.aload_n (pc := 126) dX5_draw_126 rfl ?_
    refine EV.iload_n (pc := 127) dX5_draw_127 rfl ?_
    refine EV.iload_n (pc := 128) dX5_draw_128 rfl ?_
    refine EV.iload_n (pc := 129) dX5_draw_129 rfl ?_
    refine EV.iload (pc := 130) dX5_draw_130 rfl ?_
    refine EV.iload (pc := 132) dX5_draw_132 rfl ?_
    refine EV.topi (y := iI (k : Int)) (nI_iI k) ?_
    refine EV.callVR1 (pc := 134) (M' := M_X5_drawn) dX5_draw_134 lkX5_154 okV_X5_drawn (n_drawn hw c p f i (k : Int) hIt hc hp hf (by rw [ew]; omega) (by rw [ew]; exact hsw) (by rw [eh]; exact hsh) (by omega)) (by decide) rfl rfl (Nat.le_of_ble_eq_true rfl) (by decide) hw.h34 ?_
    refine EV.topl (y := lN (drw s c p f i (k : Int))) (by rw [← hT, drw_sX]) ?_
    refine EV.last (pc := 137) dX5_draw_137 (by decide) hw.h45 (vp_in_nI (show 20 * c + i < 80 by omega) (by omega)) ?_
    refine EV.abs (Pr := MW G ad (S_nm t (va_up (s_nm t) c (va_up (s_nm t c) i (drw s c p f i (k : Int))))) z hm) (by have q := hw.set_nm c i (drw s c p f i (k : Int)) (by omega); rw [nI_clamp (by omega)]; exact q) (fun h hw => ?_)
    rw [← hT, sX_s] at hw
    refine EV.iinc (pc := 138) dX5_draw_138 (by decide) rfl (by first | exact nI_inc _ | rfl) (by dsimp only [lst1, lk] <;> rfl) ?_
    refine EV.goto (pc := 141) (tgt := 104) dX5_draw_141 (by decide) ?_
    exact ih (i + 1) h (by omega) hw

set_option maxHeartbeats 4000000 in
set_option maxRecDepth 100000 in
theorem q_draw {G : eG} {ad : Nat → Nat} {h : Nat → va_E} {s : St} {z : Zm} {hm : Nat → va_E} (hw : MW G ad s z hm h) (hI : Inv s) (u v w k : Int32)  : MC G M_X5_draw cX5_draw ad 54 [.ref (ad 34), .int u, .int v, .int w, .int k] h (PM G ad hm (.int (f_draw s u v w k).1) (f_draw s u v w k).2) := by
  have hcn : s_cn s ≤ 4 := hI.2.2.1
  by_cases hpc : 0 ≤ u.toInt ∧ u.toInt < s_cn s
  · obtain ⟨c, rfl, ec, lc⟩ := i_nat hpc.1
    have hc : c < s_cn s := by omega
    have hc4 : c < 4 := by omega
    have hbc := hI.2.2.2.1 c hc4
    by_cases hpp : 0 ≤ v.toInt ∧ v.toInt ≤ 5
    · obtain ⟨p, rfl, ep, lp⟩ := i_nat hpp.1
      have hp : p < 6 := by omega
      have hdp := hI.1 p hp
      by_cases hpf : 0 ≤ w.toInt ∧ w.toInt ≤ 5
      · obtain ⟨f, rfl, ef, lf⟩ := i_nat hpf.1
        have hf : f < 6 := by omega
        have hdf := hI.1 f hf
        have e0 : f_draw s (nI c) (nI p) (nI f) k = g_draw s c p f k.toInt := by unfold f_draw; rw [if_pos ⟨hpc, hpp, hpf⟩, nI_tn (by omega), nI_tn (by omega), nI_tn (by omega)]
        rw [e0]
        refine MC.of (by decide +kernel) (Nat.le_of_ble_eq_true rfl) (by dsimp only [linit, Nat.reduceSub, List.reduceReplicate] <;> rfl) ?_
        refine EV.aload_n (pc := 0) dX5_draw_0 rfl ?_
        refine EV.iload_n (pc := 1) dX5_draw_1 rfl ?_
        refine EV.callVR1 (pc := 2) (M' := M_X5_isComb) dX5_draw_2 lkX5_117 okV_X5_isComb (n_isComb _ hw hcn) (by decide) rfl rfl (Nat.le_of_ble_eq_true rfl) (by decide) hw.h34 ?_
        refine EV.if_eq (pc := 5) (tgt := 22) dX5_draw_5 (by decide) (fun q => absurd q (fun q => b2i_F q hpc)) (fun _ => ?_)
        refine EV.iload_n (pc := 8) dX5_draw_8 rfl ?_
        refine EV.callSR1 (pc := 9) (M' := M_X5_isPlate) dX5_draw_9 lkX5_82 okS_X5_isPlate (n_isPlate _) (by decide) rfl rfl (Nat.le_of_ble_eq_true rfl) ?_
        refine EV.if_eq (pc := 12) (tgt := 22) dX5_draw_12 (by decide) (fun q => absurd q (fun q => b2i_F q hpp)) (fun _ => ?_)
        refine EV.iload_n (pc := 15) dX5_draw_15 rfl ?_
        refine EV.callSR1 (pc := 16) (M' := M_X5_isPlate) dX5_draw_16 lkX5_82 okS_X5_isPlate (n_isPlate _) (by decide) rfl rfl (Nat.le_of_ble_eq_true rfl) ?_
        refine EV.if_ne (pc := 19) (tgt := 25) dX5_draw_19 (by decide) (fun _ => ?_) (fun q => absurd q (fun q => b2i_F q hpf))
        refine EV.iload (pc := 25) dX5_draw_25 rfl ?_
        refine EV.i2l (pc := 27) dX5_draw_27 ?_
        refine EV.lconst (pc := 28) (v := 0) dX5_draw_28 (by decide) ?_
        refine EV.ldc2 (pc := 29) dX5_draw_29 kcX5_152 ?_
        refine EV.callSR1 (pc := 32) (M' := M_X5_in) dX5_draw_32 lkX5_75 okS_X5_in (n_in _ _ _) (by decide) rfl rfl (Nat.le_of_ble_eq_true rfl) ?_
        refine EV.if_ne (pc := 35) (tgt := 41) dX5_draw_35 (by decide) (fun c35 => ?_) (fun c35 => ?_)
        · replace c35 := b2i_T c35
          try simp only [Int32.lt_iff_toInt_lt, Int32.le_iff_toInt_le, ← Int32.toInt_inj, Int64.lt_iff_toInt_lt, Int64.le_iff_toInt_le, ← Int64.toInt_inj, Int32.toInt_toInt64, i_l0, i_l1, i_l2, i_l5, i_l19, i_m1, j_l0, j_l1, j_l5, i_l3, i_l4, i_l6, i_l7, i_l8, i_l9, i_l12, i_l16, i_l20, i_l60, i_l64, i_l100, i_l200, i_l304, i_l2000, i_l10000, i_l100000, i_l1000000, i_n1000000, i_n19, i_n101, j_l2, j_l3, j_l19, j_l304, j_l2000, j_l10000, j_l100000, j_l1000000, j_l60, j_l100, j_n1000000, j_n19] at c35
          refine EV.aload_n (pc := 41) dX5_draw_41 rfl ?_
          refine EV.getf (pc := 42) dX5_draw_42 fgX5_7 (by decide) hw.h34 rfl ?_
          refine EV.iload_n (pc := 45) dX5_draw_45 rfl ?_
          refine EV.zald (pc := 46) dX5_draw_46 (by decide) hw.h35 (vp_in_nI (show p < 6 by omega) (by omega)) ?_
          refine EV.topi (y := b2i (!(s_lost s p))) (by rw [nI_clamp (by omega)]) ?_
          refine EV.if_eq (pc := 47) (tgt := 59) dX5_draw_47 (by decide) (fun c47 => ?_) (fun c47 => ?_)
          · replace c47 := b2i_eq c47
            refine EV.aload_n (pc := 59) dX5_draw_59 rfl ?_
            refine EV.bipush (pc := 60) (v := -11) dX5_draw_60 (by decide) ?_
            refine EV.callVPi (pc := 62) (M' := M_X5_met) dX5_draw_62 lkX5_88 okV_X5_met (n_met 1 _ hw (by omega) (by decide +kernel)) (by decide) rfl rfl (Nat.le_of_ble_eq_true rfl) (by decide) hw.h34 (fun h hw => ?_)
            refine EV.iret (pc := 65) dX5_draw_65 trivial ?_
            exact PM.i (by unfold g_draw; rw [if_pos (by omega), if_pos (by first | exact Or.inl (nq_T c47) | exact Or.inr (nq_T c56))]) hw
          · replace c47 := b2i_ne c47
            refine EV.aload_n (pc := 50) dX5_draw_50 rfl ?_
            refine EV.getf (pc := 51) dX5_draw_51 fgX5_7 (by decide) hw.h34 rfl ?_
            refine EV.iload_n (pc := 54) dX5_draw_54 rfl ?_
            refine EV.zald (pc := 55) dX5_draw_55 (by decide) hw.h35 (vp_in_nI (show f < 6 by omega) (by omega)) ?_
            refine EV.topi (y := b2i (!(s_lost s f))) (by rw [nI_clamp (by omega)]) ?_
            refine EV.if_ne (pc := 56) (tgt := 66) dX5_draw_56 (by decide) (fun c56 => ?_) (fun c56 => ?_)
            · replace c56 := b2i_ne c56
              refine EV.aload_n (pc := 66) dX5_draw_66 rfl ?_
              refine EV.iload_n (pc := 67) dX5_draw_67 rfl ?_
              refine EV.iload_n (pc := 68) dX5_draw_68 rfl ?_
              refine EV.callVR1 (pc := 69) (M' := M_X5_isLike) dX5_draw_69 lkX5_104 okV_X5_isLike (n_isLike p f hw hp hf ⟨hdp.1, hdp.2.1⟩ ⟨hdf.1, hdf.2.1⟩) (by decide) rfl rfl (Nat.le_of_ble_eq_true rfl) (by decide) hw.h34 ?_
              refine EV.if_ne (pc := 72) (tgt := 82) dX5_draw_72 (by decide) (fun c72 => ?_) (fun c72 => ?_)
              · replace c72 := b2i_T c72
                try simp only [Int32.lt_iff_toInt_lt, Int32.le_iff_toInt_le, ← Int32.toInt_inj, Int64.lt_iff_toInt_lt, Int64.le_iff_toInt_le, ← Int64.toInt_inj, Int32.toInt_toInt64, i_l0, i_l1, i_l2, i_l5, i_l19, i_m1, j_l0, j_l1, j_l5, i_l3, i_l4, i_l6, i_l7, i_l8, i_l9, i_l12, i_l16, i_l20, i_l60, i_l64, i_l100, i_l200, i_l304, i_l2000, i_l10000, i_l100000, i_l1000000, i_n1000000, i_n19, i_n101, j_l2, j_l3, j_l19, j_l304, j_l2000, j_l10000, j_l100000, j_l1000000, j_l60, j_l100, j_n1000000, j_n19] at c72
                obtain ⟨k1, rfl, ek1, lk1⟩ := i_nat (show 0 ≤ k.toInt by omega)
                refine EV.aload_n (pc := 82) dX5_draw_82 rfl ?_
                refine EV.getf (pc := 83) dX5_draw_83 fgX5_38 (by decide) hw.h34 rfl ?_
                refine EV.iload_n (pc := 86) dX5_draw_86 rfl ?_
                refine EV.aload_n (pc := 87) dX5_draw_87 rfl ?_
                refine EV.getf (pc := 88) dX5_draw_88 fgX5_17 (by decide) hw.h34 rfl ?_
                refine EV.iload_n (pc := 91) dX5_draw_91 rfl ?_
                refine EV.iald (pc := 92) dX5_draw_92 (by decide) hw.h37 (vp_in_nI (show p < 6 by omega) (by omega)) ?_
                refine EV.topi (y := nI (s_w s p)) (by rw [nI_clamp (by omega)]) ?_
                refine EV.iast (pc := 93) dX5_draw_93 (by decide) hw.h44 (vp_in_nI (show c < 4 by omega) (by omega)) ?_
                refine EV.abs (Pr := MW G ad (S_co s (va_up (s_co s) c (s_w s p))) z hm) (by have q := hw.set_co c (s_w s p); rw [nI_clamp (by omega)]; exact q) (fun h hw => ?_)
                generalize hT1 : S_co s (va_up (s_co s) c (s_w s p)) = t1 at hw
                refine EV.aload_n (pc := 94) dX5_draw_94 rfl ?_
                refine EV.getf (pc := 95) dX5_draw_95 fgX5_45 (by decide) hw.h34 rfl ?_
                refine EV.iload_n (pc := 98) dX5_draw_98 rfl ?_
                refine EV.iconst (pc := 99) (v := 0) dX5_draw_99 (by decide) ?_
                refine EV.zast (pc := 100) dX5_draw_100 (by decide) hw.h46 (vp_in_nI (show c < 4 by omega) (by omega)) ?_
                refine EV.abs (Pr := MW G ad (S_li t1 (va_up (s_li t1) c false)) z hm) (by have q := hw.set_liF c; rw [nI_clamp (by omega)]; exact q) (fun h hw => ?_)
                generalize hT2 : S_li t1 (va_up (s_li t1) c false) = t2 at hw
                have hw := MW.dropL (k := c) hw (by rw [← hT2]; exact va_up_s)
                rw [← hT2, ← hT1] at hw
                rw [sX_0 (f := f) (k := (k1 : Int))] at hw
                refine EV.iconst (pc := 101) (v := 0) dX5_draw_101 (by decide) ?_
                refine EV.istore (pc := 102) dX5_draw_102 (by decide) (by dsimp only [lst1, lk] <;> rfl) ?_
                have e2 : g_draw s c p f (nI k1).toInt = (nI (s_w s p), sE s c p f (k1 : Int)) := by unfold g_draw; rw [if_pos (by omega), if_neg (by rw [nq_F c47, nq_F c56]; simp), if_pos c72, ek1]
                rw [e2]
                refine l_ndraw (z := z) c p f k1 hI hc4 hp hf c72.1 c72.2 (by omega) (s_w s p) 0 h (by omega) ?_
                exact hw
              · replace c72 := b2i_F c72
                try simp only [Int32.lt_iff_toInt_lt, Int32.le_iff_toInt_le, ← Int32.toInt_inj, Int64.lt_iff_toInt_lt, Int64.le_iff_toInt_le, ← Int64.toInt_inj, Int32.toInt_toInt64, i_l0, i_l1, i_l2, i_l5, i_l19, i_m1, j_l0, j_l1, j_l5, i_l3, i_l4, i_l6, i_l7, i_l8, i_l9, i_l12, i_l16, i_l20, i_l60, i_l64, i_l100, i_l200, i_l304, i_l2000, i_l10000, i_l100000, i_l1000000, i_n1000000, i_n19, i_n101, j_l2, j_l3, j_l19, j_l304, j_l2000, j_l10000, j_l100000, j_l1000000, j_l60, j_l100, j_n1000000, j_n19] at c72
                refine EV.aload_n (pc := 75) dX5_draw_75 rfl ?_
                refine EV.bipush (pc := 76) (v := -15) dX5_draw_76 (by decide) ?_
                refine EV.callVPi (pc := 78) (M' := M_X5_met) dX5_draw_78 lkX5_88 okV_X5_met (n_met 5 _ hw (by omega) (by decide +kernel)) (by decide) rfl rfl (Nat.le_of_ble_eq_true rfl) (by decide) hw.h34 (fun h hw => ?_)
                refine EV.iret (pc := 81) dX5_draw_81 trivial ?_
                exact PM.i (by unfold g_draw; rw [if_pos (by omega), if_neg (by rw [nq_F c47, nq_F c56]; simp), if_neg c72]) hw
            · replace c56 := b2i_eq c56
              refine EV.aload_n (pc := 59) dX5_draw_59 rfl ?_
              refine EV.bipush (pc := 60) (v := -11) dX5_draw_60 (by decide) ?_
              refine EV.callVPi (pc := 62) (M' := M_X5_met) dX5_draw_62 lkX5_88 okV_X5_met (n_met 1 _ hw (by omega) (by decide +kernel)) (by decide) rfl rfl (Nat.le_of_ble_eq_true rfl) (by decide) hw.h34 (fun h hw => ?_)
              refine EV.iret (pc := 65) dX5_draw_65 trivial ?_
              exact PM.i (by unfold g_draw; rw [if_pos (by omega), if_pos (by first | exact Or.inl (nq_T c47) | exact Or.inr (nq_T c56))]) hw
        · replace c35 := b2i_F c35
          try simp only [Int32.lt_iff_toInt_lt, Int32.le_iff_toInt_le, ← Int32.toInt_inj, Int64.lt_iff_toInt_lt, Int64.le_iff_toInt_le, ← Int64.toInt_inj, Int32.toInt_toInt64, i_l0, i_l1, i_l2, i_l5, i_l19, i_m1, j_l0, j_l1, j_l5, i_l3, i_l4, i_l6, i_l7, i_l8, i_l9, i_l12, i_l16, i_l20, i_l60, i_l64, i_l100, i_l200, i_l304, i_l2000, i_l10000, i_l100000, i_l1000000, i_n1000000, i_n19, i_n101, j_l2, j_l3, j_l19, j_l304, j_l2000, j_l10000, j_l100000, j_l1000000, j_l60, j_l100, j_n1000000, j_n19] at c35
          refine EV.bipush (pc := 38) (v := -102) dX5_draw_38 (by decide) ?_
          refine EV.iret (pc := 40) dX5_draw_40 trivial ?_
          exact PM.i (by unfold g_draw; rw [if_neg (by omega)]) hw
      · have e0 : f_draw s (nI c) (nI p) w k = (-101, s) := by unfold f_draw; rw [if_neg (fun q => hpf q.2.2)]
        rw [e0]
        refine MC.of (by decide +kernel) (Nat.le_of_ble_eq_true rfl) (by dsimp only [linit, Nat.reduceSub, List.reduceReplicate] <;> rfl) ?_
        refine EV.aload_n (pc := 0) dX5_draw_0 rfl ?_
        refine EV.iload_n (pc := 1) dX5_draw_1 rfl ?_
        refine EV.callVR1 (pc := 2) (M' := M_X5_isComb) dX5_draw_2 lkX5_117 okV_X5_isComb (n_isComb _ hw hcn) (by decide) rfl rfl (Nat.le_of_ble_eq_true rfl) (by decide) hw.h34 ?_
        refine EV.if_eq (pc := 5) (tgt := 22) dX5_draw_5 (by decide) (fun q => absurd q (fun q => b2i_F q hpc)) (fun _ => ?_)
        refine EV.iload_n (pc := 8) dX5_draw_8 rfl ?_
        refine EV.callSR1 (pc := 9) (M' := M_X5_isPlate) dX5_draw_9 lkX5_82 okS_X5_isPlate (n_isPlate _) (by decide) rfl rfl (Nat.le_of_ble_eq_true rfl) ?_
        refine EV.if_eq (pc := 12) (tgt := 22) dX5_draw_12 (by decide) (fun q => absurd q (fun q => b2i_F q hpp)) (fun _ => ?_)
        refine EV.iload_n (pc := 15) dX5_draw_15 rfl ?_
        refine EV.callSR1 (pc := 16) (M' := M_X5_isPlate) dX5_draw_16 lkX5_82 okS_X5_isPlate (n_isPlate _) (by decide) rfl rfl (Nat.le_of_ble_eq_true rfl) ?_
        refine EV.if_ne (pc := 19) (tgt := 25) dX5_draw_19 (by decide) (fun q => absurd (b2i_0 hpf).symm q) (fun _ => ?_)
        refine EV.bipush (pc := 22) (v := -101) dX5_draw_22 (by decide) ?_
        exact EV.iret (pc := 24) dX5_draw_24 trivial ⟨rfl, z, hw⟩
    · by_cases hpf : 0 ≤ w.toInt ∧ w.toInt ≤ 5
      · obtain ⟨f, rfl, ef, lf⟩ := i_nat hpf.1
        have hf : f < 6 := by omega
        have hdf := hI.1 f hf
        have e0 : f_draw s (nI c) v (nI f) k = (-101, s) := by unfold f_draw; rw [if_neg (fun q => hpp q.2.1)]
        rw [e0]
        refine MC.of (by decide +kernel) (Nat.le_of_ble_eq_true rfl) (by dsimp only [linit, Nat.reduceSub, List.reduceReplicate] <;> rfl) ?_
        refine EV.aload_n (pc := 0) dX5_draw_0 rfl ?_
        refine EV.iload_n (pc := 1) dX5_draw_1 rfl ?_
        refine EV.callVR1 (pc := 2) (M' := M_X5_isComb) dX5_draw_2 lkX5_117 okV_X5_isComb (n_isComb _ hw hcn) (by decide) rfl rfl (Nat.le_of_ble_eq_true rfl) (by decide) hw.h34 ?_
        refine EV.if_eq (pc := 5) (tgt := 22) dX5_draw_5 (by decide) (fun q => absurd q (fun q => b2i_F q hpc)) (fun _ => ?_)
        refine EV.iload_n (pc := 8) dX5_draw_8 rfl ?_
        refine EV.callSR1 (pc := 9) (M' := M_X5_isPlate) dX5_draw_9 lkX5_82 okS_X5_isPlate (n_isPlate _) (by decide) rfl rfl (Nat.le_of_ble_eq_true rfl) ?_
        refine EV.if_eq (pc := 12) (tgt := 22) dX5_draw_12 (by decide) (fun _ => ?_) (fun q => absurd (b2i_0 hpp).symm q)
        refine EV.bipush (pc := 22) (v := -101) dX5_draw_22 (by decide) ?_
        exact EV.iret (pc := 24) dX5_draw_24 trivial ⟨rfl, z, hw⟩
      · have e0 : f_draw s (nI c) v w k = (-101, s) := by unfold f_draw; rw [if_neg (fun q => hpp q.2.1)]
        rw [e0]
        refine MC.of (by decide +kernel) (Nat.le_of_ble_eq_true rfl) (by dsimp only [linit, Nat.reduceSub, List.reduceReplicate] <;> rfl) ?_
        refine EV.aload_n (pc := 0) dX5_draw_0 rfl ?_
        refine EV.iload_n (pc := 1) dX5_draw_1 rfl ?_
        refine EV.callVR1 (pc := 2) (M' := M_X5_isComb) dX5_draw_2 lkX5_117 okV_X5_isComb (n_isComb _ hw hcn) (by decide) rfl rfl (Nat.le_of_ble_eq_true rfl) (by decide) hw.h34 ?_
        refine EV.if_eq (pc := 5) (tgt := 22) dX5_draw_5 (by decide) (fun q => absurd q (fun q => b2i_F q hpc)) (fun _ => ?_)
        refine EV.iload_n (pc := 8) dX5_draw_8 rfl ?_
        refine EV.callSR1 (pc := 9) (M' := M_X5_isPlate) dX5_draw_9 lkX5_82 okS_X5_isPlate (n_isPlate _) (by decide) rfl rfl (Nat.le_of_ble_eq_true rfl) ?_
        refine EV.if_eq (pc := 12) (tgt := 22) dX5_draw_12 (by decide) (fun _ => ?_) (fun q => absurd (b2i_0 hpp).symm q)
        refine EV.bipush (pc := 22) (v := -101) dX5_draw_22 (by decide) ?_
        exact EV.iret (pc := 24) dX5_draw_24 trivial ⟨rfl, z, hw⟩
  · by_cases hpp : 0 ≤ v.toInt ∧ v.toInt ≤ 5
    · obtain ⟨p, rfl, ep, lp⟩ := i_nat hpp.1
      have hp : p < 6 := by omega
      have hdp := hI.1 p hp
      by_cases hpf : 0 ≤ w.toInt ∧ w.toInt ≤ 5
      · obtain ⟨f, rfl, ef, lf⟩ := i_nat hpf.1
        have hf : f < 6 := by omega
        have hdf := hI.1 f hf
        have e0 : f_draw s u (nI p) (nI f) k = (-101, s) := by unfold f_draw; rw [if_neg (fun q => hpc q.1)]
        rw [e0]
        refine MC.of (by decide +kernel) (Nat.le_of_ble_eq_true rfl) (by dsimp only [linit, Nat.reduceSub, List.reduceReplicate] <;> rfl) ?_
        refine EV.aload_n (pc := 0) dX5_draw_0 rfl ?_
        refine EV.iload_n (pc := 1) dX5_draw_1 rfl ?_
        refine EV.callVR1 (pc := 2) (M' := M_X5_isComb) dX5_draw_2 lkX5_117 okV_X5_isComb (n_isComb _ hw hcn) (by decide) rfl rfl (Nat.le_of_ble_eq_true rfl) (by decide) hw.h34 ?_
        refine EV.if_eq (pc := 5) (tgt := 22) dX5_draw_5 (by decide) (fun _ => ?_) (fun q => absurd (b2i_0 hpc).symm q)
        refine EV.bipush (pc := 22) (v := -101) dX5_draw_22 (by decide) ?_
        exact EV.iret (pc := 24) dX5_draw_24 trivial ⟨rfl, z, hw⟩
      · have e0 : f_draw s u (nI p) w k = (-101, s) := by unfold f_draw; rw [if_neg (fun q => hpc q.1)]
        rw [e0]
        refine MC.of (by decide +kernel) (Nat.le_of_ble_eq_true rfl) (by dsimp only [linit, Nat.reduceSub, List.reduceReplicate] <;> rfl) ?_
        refine EV.aload_n (pc := 0) dX5_draw_0 rfl ?_
        refine EV.iload_n (pc := 1) dX5_draw_1 rfl ?_
        refine EV.callVR1 (pc := 2) (M' := M_X5_isComb) dX5_draw_2 lkX5_117 okV_X5_isComb (n_isComb _ hw hcn) (by decide) rfl rfl (Nat.le_of_ble_eq_true rfl) (by decide) hw.h34 ?_
        refine EV.if_eq (pc := 5) (tgt := 22) dX5_draw_5 (by decide) (fun _ => ?_) (fun q => absurd (b2i_0 hpc).symm q)
        refine EV.bipush (pc := 22) (v := -101) dX5_draw_22 (by decide) ?_
        exact EV.iret (pc := 24) dX5_draw_24 trivial ⟨rfl, z, hw⟩
    · by_cases hpf : 0 ≤ w.toInt ∧ w.toInt ≤ 5
      · obtain ⟨f, rfl, ef, lf⟩ := i_nat hpf.1
        have hf : f < 6 := by omega
        have hdf := hI.1 f hf
        have e0 : f_draw s u v (nI f) k = (-101, s) := by unfold f_draw; rw [if_neg (fun q => hpc q.1)]
        rw [e0]
        refine MC.of (by decide +kernel) (Nat.le_of_ble_eq_true rfl) (by dsimp only [linit, Nat.reduceSub, List.reduceReplicate] <;> rfl) ?_
        refine EV.aload_n (pc := 0) dX5_draw_0 rfl ?_
        refine EV.iload_n (pc := 1) dX5_draw_1 rfl ?_
        refine EV.callVR1 (pc := 2) (M' := M_X5_isComb) dX5_draw_2 lkX5_117 okV_X5_isComb (n_isComb _ hw hcn) (by decide) rfl rfl (Nat.le_of_ble_eq_true rfl) (by decide) hw.h34 ?_
        refine EV.if_eq (pc := 5) (tgt := 22) dX5_draw_5 (by decide) (fun _ => ?_) (fun q => absurd (b2i_0 hpc).symm q)
        refine EV.bipush (pc := 22) (v := -101) dX5_draw_22 (by decide) ?_
        exact EV.iret (pc := 24) dX5_draw_24 trivial ⟨rfl, z, hw⟩
      · have e0 : f_draw s u v w k = (-101, s) := by unfold f_draw; rw [if_neg (fun q => hpc q.1)]
        rw [e0]
        refine MC.of (by decide +kernel) (Nat.le_of_ble_eq_true rfl) (by dsimp only [linit, Nat.reduceSub, List.reduceReplicate] <;> rfl) ?_
        refine EV.aload_n (pc := 0) dX5_draw_0 rfl ?_
        refine EV.iload_n (pc := 1) dX5_draw_1 rfl ?_
        refine EV.callVR1 (pc := 2) (M' := M_X5_isComb) dX5_draw_2 lkX5_117 okV_X5_isComb (n_isComb _ hw hcn) (by decide) rfl rfl (Nat.le_of_ble_eq_true rfl) (by decide) hw.h34 ?_
        refine EV.if_eq (pc := 5) (tgt := 22) dX5_draw_5 (by decide) (fun _ => ?_) (fun q => absurd (b2i_0 hpc).symm q)
        refine EV.bipush (pc := 22) (v := -101) dX5_draw_22 (by decide) ?_
        exact EV.iret (pc := 24) dX5_draw_24 trivial ⟨rfl, z, hw⟩
