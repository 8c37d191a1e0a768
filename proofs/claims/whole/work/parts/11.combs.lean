def nAt (f : Nat → Nat) (co : Nat) (x : Int) : Nat := if 0 ≤ x ∧ x < co then f x.toNat else 0
theorem nAt_in {f : Nat → Nat} {co k : Nat} (h : k < co) : nAt f co (k : Int) = f k := by
  unfold nAt
  rw [if_pos ⟨by omega, by omega⟩]
  rfl
theorem lN_lt' {a b : Nat} (ha : a < 9223372036854775808) (hb : b < 9223372036854775808) : lN a < lN b ↔ a < b := by rw [Int64.lt_iff_toInt_lt, lN_t ha, lN_t hb]; omega
theorem lN_le' {a b : Nat} (ha : a < 9223372036854775808) (hb : b < 9223372036854775808) : lN a ≤ lN b ↔ a ≤ b := by rw [Int64.le_iff_toInt_le, lN_t ha, lN_t hb]; omega
theorem nI_p1 (k : Nat) : nI k + 1 = nI (k + 1) := nI_1 k
theorem nI_m1 {k : Nat} (h : 1 ≤ k) : nI k - 1 = nI (k - 1) := by rw [show (1 : Int32) = nI 1 from rfl, pk_sub h]

set_option maxHeartbeats 4000000 in
set_option maxRecDepth 100000 in
theorem m_has {G : eG} {ad : Nat → Nat} {h : Nat → va_E} (q nq lq : Nat) (a b r co : Nat) (f : Nat → Nat) (x : Int32) (hq : q < 54) (hnq : nq < 54) (hco : co ≤ 20) (hh : h q = .inr (0, [.int (nI a), .int (nI b), .int (nI r), .int (nI co), .ref (ad nq), .ref (ad lq)])) (hn : h nq = .inl (G.2.2 1, 20, .inr (.inl (fun x => lN (f x))))) : MC G M_X0_has cX0_has ad 54 [.ref (ad q), .int x] h (IS (some (.int (b2i (decide (0 ≤ x.toInt ∧ x.toInt < co))))) h) := by
  refine MC.of (by decide +kernel) (Nat.le_of_ble_eq_true rfl) (by dsimp only [linit, Nat.reduceSub, List.reduceReplicate] <;> rfl) ?_
  refine EV.iload_n (pc := 0) dX0_has_0 rfl ?_
  refine EV.if_lt (pc := 1) (tgt := 25) dX0_has_1 (by decide) (fun c1 => ?_) (fun c1 => ?_)
  · refine EV.iconst (pc := 25) (v := 0) dX0_has_25 (by decide) ?_
    refine EV.iret (pc := 26) dX0_has_26 (by rfl) ?_
    exact ⟨congrArg (fun z => some (Value.int z)) (by first | exact b2i_1 (by have e1 := nI_t (show co < 2147483648 by omega); have e2 : (20 : Int32).toInt = 20 := (by decide +kernel); simp only [Int32.lt_iff_toInt_lt, Int32.le_iff_toInt_le, ← Int32.toInt_inj, Int64.lt_iff_toInt_lt, Int64.le_iff_toInt_le, ← Int64.toInt_inj, i_l0, i_l1, i_l2, i_l5, i_l19, i_m1, j_l0, j_l1, j_l5, Int32.toInt_toInt64, e1, e2] at *; omega) | exact b2i_0 (by have e1 := nI_t (show co < 2147483648 by omega); have e2 : (20 : Int32).toInt = 20 := (by decide +kernel); simp only [Int32.lt_iff_toInt_lt, Int32.le_iff_toInt_le, ← Int32.toInt_inj, Int64.lt_iff_toInt_lt, Int64.le_iff_toInt_le, ← Int64.toInt_inj, i_l0, i_l1, i_l2, i_l5, i_l19, i_m1, j_l0, j_l1, j_l5, Int32.toInt_toInt64, e1, e2] at *; omega)), rfl⟩
  · refine EV.iload_n (pc := 4) dX0_has_4 rfl ?_
    refine EV.aload_n (pc := 5) dX0_has_5 rfl ?_
    refine EV.getf (pc := 6) dX0_has_6 fgX0_55 hq hh rfl ?_
    refine EV.icmp_ge (pc := 9) (tgt := 25) dX0_has_9 (by decide) (fun c9 => ?_) (fun c9 => ?_)
    · refine EV.iconst (pc := 25) (v := 0) dX0_has_25 (by decide) ?_
      refine EV.iret (pc := 26) dX0_has_26 (by rfl) ?_
      exact ⟨congrArg (fun z => some (Value.int z)) (by first | exact b2i_1 (by have e1 := nI_t (show co < 2147483648 by omega); have e2 : (20 : Int32).toInt = 20 := (by decide +kernel); simp only [Int32.lt_iff_toInt_lt, Int32.le_iff_toInt_le, ← Int32.toInt_inj, Int64.lt_iff_toInt_lt, Int64.le_iff_toInt_le, ← Int64.toInt_inj, i_l0, i_l1, i_l2, i_l5, i_l19, i_m1, j_l0, j_l1, j_l5, Int32.toInt_toInt64, e1, e2] at *; omega) | exact b2i_0 (by have e1 := nI_t (show co < 2147483648 by omega); have e2 : (20 : Int32).toInt = 20 := (by decide +kernel); simp only [Int32.lt_iff_toInt_lt, Int32.le_iff_toInt_le, ← Int32.toInt_inj, Int64.lt_iff_toInt_lt, Int64.le_iff_toInt_le, ← Int64.toInt_inj, i_l0, i_l1, i_l2, i_l5, i_l19, i_m1, j_l0, j_l1, j_l5, Int32.toInt_toInt64, e1, e2] at *; omega)), rfl⟩
    · refine EV.iload_n (pc := 12) dX0_has_12 rfl ?_
      refine EV.aload_n (pc := 13) dX0_has_13 rfl ?_
      refine EV.getf (pc := 14) dX0_has_14 fgX0_9 hq hh rfl ?_
      refine EV.alen (pc := 17) (t0 := 1) dX0_has_17 rfl hnq hn (v := 20) rfl ?_
      refine EV.icmp_ge (pc := 18) (tgt := 25) dX0_has_18 (by decide) (fun c18 => ?_) (fun c18 => ?_)
      · refine EV.iconst (pc := 25) (v := 0) dX0_has_25 (by decide) ?_
        refine EV.iret (pc := 26) dX0_has_26 (by rfl) ?_
        exact ⟨congrArg (fun z => some (Value.int z)) (by first | exact b2i_1 (by have e1 := nI_t (show co < 2147483648 by omega); have e2 : (20 : Int32).toInt = 20 := (by decide +kernel); simp only [Int32.lt_iff_toInt_lt, Int32.le_iff_toInt_le, ← Int32.toInt_inj, Int64.lt_iff_toInt_lt, Int64.le_iff_toInt_le, ← Int64.toInt_inj, i_l0, i_l1, i_l2, i_l5, i_l19, i_m1, j_l0, j_l1, j_l5, Int32.toInt_toInt64, e1, e2] at *; omega) | exact b2i_0 (by have e1 := nI_t (show co < 2147483648 by omega); have e2 : (20 : Int32).toInt = 20 := (by decide +kernel); simp only [Int32.lt_iff_toInt_lt, Int32.le_iff_toInt_le, ← Int32.toInt_inj, Int64.lt_iff_toInt_lt, Int64.le_iff_toInt_le, ← Int64.toInt_inj, i_l0, i_l1, i_l2, i_l5, i_l19, i_m1, j_l0, j_l1, j_l5, Int32.toInt_toInt64, e1, e2] at *; omega)), rfl⟩
      · refine EV.iconst (pc := 21) (v := 1) dX0_has_21 (by decide) ?_
        refine EV.goto (pc := 22) (tgt := 26) dX0_has_22 (by decide) ?_
        refine EV.iret (pc := 26) dX0_has_26 (by rfl) ?_
        exact ⟨congrArg (fun z => some (Value.int z)) (by first | exact b2i_1 (by have e1 := nI_t (show co < 2147483648 by omega); have e2 : (20 : Int32).toInt = 20 := (by decide +kernel); simp only [Int32.lt_iff_toInt_lt, Int32.le_iff_toInt_le, ← Int32.toInt_inj, Int64.lt_iff_toInt_lt, Int64.le_iff_toInt_le, ← Int64.toInt_inj, i_l0, i_l1, i_l2, i_l5, i_l19, i_m1, j_l0, j_l1, j_l5, Int32.toInt_toInt64, e1, e2] at *; omega) | exact b2i_0 (by have e1 := nI_t (show co < 2147483648 by omega); have e2 : (20 : Int32).toInt = 20 := (by decide +kernel); simp only [Int32.lt_iff_toInt_lt, Int32.le_iff_toInt_le, ← Int32.toInt_inj, Int64.lt_iff_toInt_lt, Int64.le_iff_toInt_le, ← Int64.toInt_inj, i_l0, i_l1, i_l2, i_l5, i_l19, i_m1, j_l0, j_l1, j_l5, Int32.toInt_toInt64, e1, e2] at *; omega)), rfl⟩

set_option maxHeartbeats 4000000 in
set_option maxRecDepth 100000 in
theorem m_kat {G : eG} {ad : Nat → Nat} {h : Nat → va_E} (q nq lq : Nat) (a b r co : Nat) (f : Nat → Nat) (x : Int32) (hq : q < 54) (hnq : nq < 54) (hco : co ≤ 20) (hh : h q = .inr (0, [.int (nI a), .int (nI b), .int (nI r), .int (nI co), .ref (ad nq), .ref (ad lq)])) (hn : h nq = .inl (G.2.2 1, 20, .inr (.inl (fun x => lN (f x))))) : MC G M_X0_at cX0_at ad 54 [.ref (ad q), .int x] h (IS (some (.long (lN (nAt f co x.toInt)))) h) := by
  refine MC.of (by decide +kernel) (Nat.le_of_ble_eq_true rfl) (by dsimp only [linit, Nat.reduceSub, List.reduceReplicate] <;> rfl) ?_
  refine EV.aload_n (pc := 0) dX0_at_0 rfl ?_
  refine EV.iload_n (pc := 1) dX0_at_1 rfl ?_
  refine EV.callVR1 (pc := 2) (M' := M_X0_has) dX0_at_2 lkX0_58 okV_X0_has (m_has q nq lq a b r co f _ hq hnq hco hh hn) (by decide) rfl rfl (Nat.le_of_ble_eq_true rfl) hq hh ?_
  refine EV.if_eq (pc := 5) (tgt := 17) dX0_at_5 (by decide) (fun c5 => ?_) (fun c5 => ?_)
  · replace c5 := b2i_F c5
    refine EV.lconst (pc := 17) (v := 0) dX0_at_17 (by decide) ?_
    refine EV.lret (pc := 18) dX0_at_18 trivial ?_
    exact ⟨congrArg (fun z => some (Value.long z)) (by unfold nAt; first | (rw [if_pos c5]; rfl) | (rw [if_neg c5]; rfl)), rfl⟩
  · replace c5 := b2i_T c5
    refine EV.aload_n (pc := 8) dX0_at_8 rfl ?_
    refine EV.getf (pc := 9) dX0_at_9 fgX0_9 hq hh rfl ?_
    refine EV.iload_n (pc := 12) dX0_at_12 rfl ?_
    refine EV.lald (pc := 13) dX0_at_13 hnq hn (by rw [vp_in_iff]; omega) ?_
    refine EV.goto (pc := 14) (tgt := 18) dX0_at_14 (by decide) ?_
    refine EV.lret (pc := 18) dX0_at_18 trivial ?_
    exact ⟨congrArg (fun z => some (Value.long z)) (by unfold nAt; first | (rw [if_pos c5]; rfl) | (rw [if_neg c5]; rfl)), rfl⟩

set_option maxHeartbeats 4000000 in
set_option maxRecDepth 100000 in
theorem m_isPeak {G : eG} {ad : Nat → Nat} {h : Nat → va_E} (q nq lq : Nat) (a b r co : Nat) (f : Nat → Nat) (k : Nat) (t : Int64) (hq : q < 54) (hnq : nq < 54) (hco : co ≤ 20) (hh : h q = .inr (0, [.int (nI a), .int (nI b), .int (nI r), .int (nI co), .ref (ad nq), .ref (ad lq)])) (hn : h nq = .inl (G.2.2 1, 20, .inr (.inl (fun x => lN (f x))))) (hk1 : 1 ≤ k) (hk2 : k + 1 < co) (hb : ∀ j, j < 20 → f j ≤ 700000) : MC G M_X0_isPeak cX0_isPeak ad 54 [.ref (ad q), .int (nI k), .long t] h (IS (some (.int (b2i (decide (f (k - 1) < f k ∧ f (k + 1) ≤ f k ∧ t.toInt ≤ f k))))) h) := by
  refine MC.of (by decide +kernel) (Nat.le_of_ble_eq_true rfl) (by dsimp only [linit, Nat.reduceSub, List.reduceReplicate] <;> rfl) ?_
  refine EV.aload_n (pc := 0) dX0_isPeak_0 rfl ?_
  refine EV.iload_n (pc := 1) dX0_isPeak_1 rfl ?_
  refine EV.callVR1 (pc := 2) (M' := M_X0_at) dX0_isPeak_2 lkX0_62 okV_X0_at (m_kat q nq lq a b r co f _ hq hnq hco hh hn) (by decide) rfl rfl (Nat.le_of_ble_eq_true rfl) hq hh ?_
  refine EV.topl (y := lN (f (k))) (by rw [nI_t (by omega), nAt_in (by omega)]) ?_
  refine EV.aload_n (pc := 5) dX0_isPeak_5 rfl ?_
  refine EV.iload_n (pc := 6) dX0_isPeak_6 rfl ?_
  refine EV.iconst (pc := 7) (v := 1) dX0_isPeak_7 (by decide) ?_
  refine EV.isub (pc := 8) dX0_isPeak_8 ?_
  rw [nI_m1 hk1]
  refine EV.callVR1 (pc := 9) (M' := M_X0_at) dX0_isPeak_9 lkX0_62 okV_X0_at (m_kat q nq lq a b r co f _ hq hnq hco hh hn) (by decide) rfl rfl (Nat.le_of_ble_eq_true rfl) hq hh ?_
  refine EV.topl (y := lN (f (k - 1))) (by rw [nI_t (by omega), nAt_in (by omega)]) ?_
  refine EV.lcmp_le (pc := 12) (tgt := 46) dX0_isPeak_12 dX0_isPeak_13 (by decide) (fun c12 => ?_) (fun c12 => ?_)
  · refine EV.iconst (pc := 46) (v := 0) dX0_isPeak_46 (by decide) ?_
    refine EV.iret (pc := 47) dX0_isPeak_47 (by rfl) ?_
    exact ⟨congrArg (fun z => some (Value.int z)) (by first | exact b2i_1 (by have g1 := hb k (by omega); have g2 := hb (k - 1) (by omega); have g3 := hb (k + 1) (by omega); have e1 := lN_t (show f k < 9223372036854775808 by omega); have e2 := lN_t (show f (k - 1) < 9223372036854775808 by omega); have e3 := lN_t (show f (k + 1) < 9223372036854775808 by omega); simp only [Int32.lt_iff_toInt_lt, Int32.le_iff_toInt_le, ← Int32.toInt_inj, Int64.lt_iff_toInt_lt, Int64.le_iff_toInt_le, ← Int64.toInt_inj, i_l0, i_l1, i_l2, i_l5, i_l19, i_m1, j_l0, j_l1, j_l5, Int32.toInt_toInt64, e1, e2, e3] at *; omega) | exact b2i_0 (by have g1 := hb k (by omega); have g2 := hb (k - 1) (by omega); have g3 := hb (k + 1) (by omega); have e1 := lN_t (show f k < 9223372036854775808 by omega); have e2 := lN_t (show f (k - 1) < 9223372036854775808 by omega); have e3 := lN_t (show f (k + 1) < 9223372036854775808 by omega); simp only [Int32.lt_iff_toInt_lt, Int32.le_iff_toInt_le, ← Int32.toInt_inj, Int64.lt_iff_toInt_lt, Int64.le_iff_toInt_le, ← Int64.toInt_inj, i_l0, i_l1, i_l2, i_l5, i_l19, i_m1, j_l0, j_l1, j_l5, Int32.toInt_toInt64, e1, e2, e3] at *; omega)), rfl⟩
  · refine EV.aload_n (pc := 16) dX0_isPeak_16 rfl ?_
    refine EV.iload_n (pc := 17) dX0_isPeak_17 rfl ?_
    refine EV.callVR1 (pc := 18) (M' := M_X0_at) dX0_isPeak_18 lkX0_62 okV_X0_at (m_kat q nq lq a b r co f _ hq hnq hco hh hn) (by decide) rfl rfl (Nat.le_of_ble_eq_true rfl) hq hh ?_
    refine EV.topl (y := lN (f (k))) (by rw [nI_t (by omega), nAt_in (by omega)]) ?_
    refine EV.aload_n (pc := 21) dX0_isPeak_21 rfl ?_
    refine EV.iload_n (pc := 22) dX0_isPeak_22 rfl ?_
    refine EV.iconst (pc := 23) (v := 1) dX0_isPeak_23 (by decide) ?_
    refine EV.iadd (pc := 24) dX0_isPeak_24 ?_
    rw [nI_p1]
    refine EV.callVR1 (pc := 25) (M' := M_X0_at) dX0_isPeak_25 lkX0_62 okV_X0_at (m_kat q nq lq a b r co f _ hq hnq hco hh hn) (by decide) rfl rfl (Nat.le_of_ble_eq_true rfl) hq hh ?_
    refine EV.topl (y := lN (f (k + 1))) (by rw [nI_t (by omega), nAt_in (by omega)]) ?_
    refine EV.lcmp_lt (pc := 28) (tgt := 46) dX0_isPeak_28 dX0_isPeak_29 (by decide) (fun c28 => ?_) (fun c28 => ?_)
    · refine EV.iconst (pc := 46) (v := 0) dX0_isPeak_46 (by decide) ?_
      refine EV.iret (pc := 47) dX0_isPeak_47 (by rfl) ?_
      exact ⟨congrArg (fun z => some (Value.int z)) (by first | exact b2i_1 (by have g1 := hb k (by omega); have g2 := hb (k - 1) (by omega); have g3 := hb (k + 1) (by omega); have e1 := lN_t (show f k < 9223372036854775808 by omega); have e2 := lN_t (show f (k - 1) < 9223372036854775808 by omega); have e3 := lN_t (show f (k + 1) < 9223372036854775808 by omega); simp only [Int32.lt_iff_toInt_lt, Int32.le_iff_toInt_le, ← Int32.toInt_inj, Int64.lt_iff_toInt_lt, Int64.le_iff_toInt_le, ← Int64.toInt_inj, i_l0, i_l1, i_l2, i_l5, i_l19, i_m1, j_l0, j_l1, j_l5, Int32.toInt_toInt64, e1, e2, e3] at *; omega) | exact b2i_0 (by have g1 := hb k (by omega); have g2 := hb (k - 1) (by omega); have g3 := hb (k + 1) (by omega); have e1 := lN_t (show f k < 9223372036854775808 by omega); have e2 := lN_t (show f (k - 1) < 9223372036854775808 by omega); have e3 := lN_t (show f (k + 1) < 9223372036854775808 by omega); simp only [Int32.lt_iff_toInt_lt, Int32.le_iff_toInt_le, ← Int32.toInt_inj, Int64.lt_iff_toInt_lt, Int64.le_iff_toInt_le, ← Int64.toInt_inj, i_l0, i_l1, i_l2, i_l5, i_l19, i_m1, j_l0, j_l1, j_l5, Int32.toInt_toInt64, e1, e2, e3] at *; omega)), rfl⟩
    · refine EV.aload_n (pc := 32) dX0_isPeak_32 rfl ?_
      refine EV.iload_n (pc := 33) dX0_isPeak_33 rfl ?_
      refine EV.callVR1 (pc := 34) (M' := M_X0_at) dX0_isPeak_34 lkX0_62 okV_X0_at (m_kat q nq lq a b r co f _ hq hnq hco hh hn) (by decide) rfl rfl (Nat.le_of_ble_eq_true rfl) hq hh ?_
      refine EV.topl (y := lN (f (k))) (by rw [nI_t (by omega), nAt_in (by omega)]) ?_
      refine EV.lload_n (pc := 37) dX0_isPeak_37 rfl ?_
      refine EV.lcmp_lt (pc := 38) (tgt := 46) dX0_isPeak_38 dX0_isPeak_39 (by decide) (fun c38 => ?_) (fun c38 => ?_)
      · refine EV.iconst (pc := 46) (v := 0) dX0_isPeak_46 (by decide) ?_
        refine EV.iret (pc := 47) dX0_isPeak_47 (by rfl) ?_
        exact ⟨congrArg (fun z => some (Value.int z)) (by first | exact b2i_1 (by have g1 := hb k (by omega); have g2 := hb (k - 1) (by omega); have g3 := hb (k + 1) (by omega); have e1 := lN_t (show f k < 9223372036854775808 by omega); have e2 := lN_t (show f (k - 1) < 9223372036854775808 by omega); have e3 := lN_t (show f (k + 1) < 9223372036854775808 by omega); simp only [Int32.lt_iff_toInt_lt, Int32.le_iff_toInt_le, ← Int32.toInt_inj, Int64.lt_iff_toInt_lt, Int64.le_iff_toInt_le, ← Int64.toInt_inj, i_l0, i_l1, i_l2, i_l5, i_l19, i_m1, j_l0, j_l1, j_l5, Int32.toInt_toInt64, e1, e2, e3] at *; omega) | exact b2i_0 (by have g1 := hb k (by omega); have g2 := hb (k - 1) (by omega); have g3 := hb (k + 1) (by omega); have e1 := lN_t (show f k < 9223372036854775808 by omega); have e2 := lN_t (show f (k - 1) < 9223372036854775808 by omega); have e3 := lN_t (show f (k + 1) < 9223372036854775808 by omega); simp only [Int32.lt_iff_toInt_lt, Int32.le_iff_toInt_le, ← Int32.toInt_inj, Int64.lt_iff_toInt_lt, Int64.le_iff_toInt_le, ← Int64.toInt_inj, i_l0, i_l1, i_l2, i_l5, i_l19, i_m1, j_l0, j_l1, j_l5, Int32.toInt_toInt64, e1, e2, e3] at *; omega)), rfl⟩
      · refine EV.iconst (pc := 42) (v := 1) dX0_isPeak_42 (by decide) ?_
        refine EV.goto (pc := 43) (tgt := 47) dX0_isPeak_43 (by decide) ?_
        refine EV.iret (pc := 47) dX0_isPeak_47 (by rfl) ?_
        exact ⟨congrArg (fun z => some (Value.int z)) (by first | exact b2i_1 (by have g1 := hb k (by omega); have g2 := hb (k - 1) (by omega); have g3 := hb (k + 1) (by omega); have e1 := lN_t (show f k < 9223372036854775808 by omega); have e2 := lN_t (show f (k - 1) < 9223372036854775808 by omega); have e3 := lN_t (show f (k + 1) < 9223372036854775808 by omega); simp only [Int32.lt_iff_toInt_lt, Int32.le_iff_toInt_le, ← Int32.toInt_inj, Int64.lt_iff_toInt_lt, Int64.le_iff_toInt_le, ← Int64.toInt_inj, i_l0, i_l1, i_l2, i_l5, i_l19, i_m1, j_l0, j_l1, j_l5, Int32.toInt_toInt64, e1, e2, e3] at *; omega) | exact b2i_0 (by have g1 := hb k (by omega); have g2 := hb (k - 1) (by omega); have g3 := hb (k + 1) (by omega); have e1 := lN_t (show f k < 9223372036854775808 by omega); have e2 := lN_t (show f (k - 1) < 9223372036854775808 by omega); have e3 := lN_t (show f (k + 1) < 9223372036854775808 by omega); simp only [Int32.lt_iff_toInt_lt, Int32.le_iff_toInt_le, ← Int32.toInt_inj, Int64.lt_iff_toInt_lt, Int64.le_iff_toInt_le, ← Int64.toInt_inj, i_l0, i_l1, i_l2, i_l5, i_l19, i_m1, j_l0, j_l1, j_l5, Int32.toInt_toInt64, e1, e2, e3] at *; omega)), rfl⟩

/-- the place of a peak, in 64ths -/
def pkP (f : Nat → Nat) (k : Nat) : Int := 64 * (k : Int) + (64 * ((f (k + 1) : Int) - f (k - 1))) / ((f (k - 1) : Int) + f k + f (k + 1))
theorem pk_sum (f : Nat → Nat) (k : Nat) : lN (f (k - 1)) + lN (f k) + lN (f (k + 1)) = jI ((f (k - 1) : Int) + f k + f (k + 1)) := by
  rw [lN_jI, lN_jI, lN_jI, jI_add, jI_add]

set_option maxHeartbeats 4000000 in
set_option maxRecDepth 100000 in
theorem m_placeOfPeak {G : eG} {ad : Nat → Nat} {h : Nat → va_E} (q nq lq : Nat) (a b r co : Nat) (f : Nat → Nat) (k : Nat) (hq : q < 54) (hnq : nq < 54) (hco : co ≤ 20) (hh : h q = .inr (0, [.int (nI a), .int (nI b), .int (nI r), .int (nI co), .ref (ad nq), .ref (ad lq)])) (hn : h nq = .inl (G.2.2 1, 20, .inr (.inl (fun x => lN (f x))))) (hk1 : 1 ≤ k) (hk2 : k + 1 < co) (hb : ∀ j, j < 20 → f j ≤ 700000) (hpos : f (k - 1) < f k) : MC G M_X0_placeOfPeak cX0_placeOfPeak ad 54 [.ref (ad q), .int (nI k)] h (IS (some (.int (iI (pkP f k)))) h) := by
  refine MC.of (by decide +kernel) (Nat.le_of_ble_eq_true rfl) (by dsimp only [linit, Nat.reduceSub, List.reduceReplicate] <;> rfl) ?_
  refine EV.aload_n (pc := 0) dX0_placeOfPeak_0 rfl ?_
  refine EV.iload_n (pc := 1) dX0_placeOfPeak_1 rfl ?_
  refine EV.iconst (pc := 2) (v := 1) dX0_placeOfPeak_2 (by decide) ?_
  refine EV.isub (pc := 3) dX0_placeOfPeak_3 ?_
  rw [nI_m1 hk1]
  refine EV.callVR1 (pc := 4) (M' := M_X0_at) dX0_placeOfPeak_4 lkX0_62 okV_X0_at (m_kat q nq lq a b r co f _ hq hnq hco hh hn) (by decide) rfl rfl (Nat.le_of_ble_eq_true rfl) hq hh ?_
  refine EV.topl (y := lN (f (k - 1))) (by rw [nI_t (by omega), nAt_in (by omega)]) ?_
  refine EV.aload_n (pc := 7) dX0_placeOfPeak_7 rfl ?_
  refine EV.iload_n (pc := 8) dX0_placeOfPeak_8 rfl ?_
  refine EV.callVR1 (pc := 9) (M' := M_X0_at) dX0_placeOfPeak_9 lkX0_62 okV_X0_at (m_kat q nq lq a b r co f _ hq hnq hco hh hn) (by decide) rfl rfl (Nat.le_of_ble_eq_true rfl) hq hh ?_
  refine EV.topl (y := lN (f (k))) (by rw [nI_t (by omega), nAt_in (by omega)]) ?_
  refine EV.ladd (pc := 12) dX0_placeOfPeak_12 ?_
  refine EV.aload_n (pc := 13) dX0_placeOfPeak_13 rfl ?_
  refine EV.iload_n (pc := 14) dX0_placeOfPeak_14 rfl ?_
  refine EV.iconst (pc := 15) (v := 1) dX0_placeOfPeak_15 (by decide) ?_
  refine EV.iadd (pc := 16) dX0_placeOfPeak_16 ?_
  rw [nI_p1]
  refine EV.callVR1 (pc := 17) (M' := M_X0_at) dX0_placeOfPeak_17 lkX0_62 okV_X0_at (m_kat q nq lq a b r co f _ hq hnq hco hh hn) (by decide) rfl rfl (Nat.le_of_ble_eq_true rfl) hq hh ?_
  refine EV.topl (y := lN (f (k + 1))) (by rw [nI_t (by omega), nAt_in (by omega)]) ?_
  refine EV.ladd (pc := 20) dX0_placeOfPeak_20 ?_
  have g1 := hb k (by omega); have g2 := hb (k - 1) (by omega); have g3 := hb (k + 1) (by omega)
  rw [pk_sum]
  refine EV.lstore_n (pc := 21) 2 dX0_placeOfPeak_21 rfl (by decide) (by dsimp only [lst2, lno, lk] <;> rfl) ?_
  refine EV.lload_n (pc := 22) dX0_placeOfPeak_22 rfl ?_
  refine EV.lconst (pc := 23) (v := 0) dX0_placeOfPeak_23 (by decide) ?_
  refine EV.lcmp_gt (pc := 24) (tgt := 33) dX0_placeOfPeak_24 dX0_placeOfPeak_25 (by decide) (fun _ => ?_) (fun q => absurd (by rw [Int64.lt_iff_toInt_lt, j_l0, jI_toInt (by omega) (by omega)]; omega) q)
  refine EV.bipush (pc := 33) (v := 64) dX0_placeOfPeak_33 (by decide) ?_
  refine EV.iload_n (pc := 35) dX0_placeOfPeak_35 rfl ?_
  refine EV.imul (pc := 36) dX0_placeOfPeak_36 ?_
  refine EV.i2l (pc := 37) dX0_placeOfPeak_37 ?_
  refine EV.ldc2 (pc := 38) dX0_placeOfPeak_38 kcX0_66 ?_
  refine EV.aload_n (pc := 41) dX0_placeOfPeak_41 rfl ?_
  refine EV.iload_n (pc := 42) dX0_placeOfPeak_42 rfl ?_
  refine EV.iconst (pc := 43) (v := 1) dX0_placeOfPeak_43 (by decide) ?_
  refine EV.iadd (pc := 44) dX0_placeOfPeak_44 ?_
  rw [nI_p1]
  refine EV.callVR1 (pc := 45) (M' := M_X0_at) dX0_placeOfPeak_45 lkX0_62 okV_X0_at (m_kat q nq lq a b r co f _ hq hnq hco hh hn) (by decide) rfl rfl (Nat.le_of_ble_eq_true rfl) hq hh ?_
  refine EV.topl (y := lN (f (k + 1))) (by rw [nI_t (by omega), nAt_in (by omega)]) ?_
  refine EV.aload_n (pc := 48) dX0_placeOfPeak_48 rfl ?_
  refine EV.iload_n (pc := 49) dX0_placeOfPeak_49 rfl ?_
  refine EV.iconst (pc := 50) (v := 1) dX0_placeOfPeak_50 (by decide) ?_
  refine EV.isub (pc := 51) dX0_placeOfPeak_51 ?_
  rw [nI_m1 hk1]
  refine EV.callVR1 (pc := 52) (M' := M_X0_at) dX0_placeOfPeak_52 lkX0_62 okV_X0_at (m_kat q nq lq a b r co f _ hq hnq hco hh hn) (by decide) rfl rfl (Nat.le_of_ble_eq_true rfl) hq hh ?_
  refine EV.topl (y := lN (f (k - 1))) (by rw [nI_t (by omega), nAt_in (by omega)]) ?_
  refine EV.lsub (pc := 55) dX0_placeOfPeak_55 ?_
  refine EV.lmul (pc := 56) dX0_placeOfPeak_56 ?_
  refine EV.lload_n (pc := 57) dX0_placeOfPeak_57 rfl ?_
  refine EV.callSR1 (pc := 58) (M' := M_J9_floorDiv_f86c9) dX0_placeOfPeak_58 lkX0_68 okS_J9_floorDiv_f86c9 (m_floorDivJ _ _ (by rw [jI_toInt (by omega) (by omega)]; omega)) (by decide) rfl rfl (Nat.le_of_ble_eq_true rfl) ?_
  refine EV.ladd (pc := 61) dX0_placeOfPeak_61 ?_
  refine EV.l2i (pc := 62) dX0_placeOfPeak_62 ?_
  refine EV.iret (pc := 63) dX0_placeOfPeak_63 trivial ?_
  exact ⟨congrArg (fun z => some (Value.int z)) (by rw [lN_jI, lN_jI, jI_sub, show (64 : Int64) = jI 64 from jI_lit 64, jI_mul, jI_toInt (by omega) (by omega), jI_toInt (by omega) (by omega), show (64 : Int32) = iI 64 from iI_lit 64, nI_iI, iI_mul, iI_l (by omega) (by omega), jI_add, jI_i]; rfl), rfl⟩

def bMid (a b x w : Nat) : Int := ((a : Int) + (if 1 < w then (((b : Int) - a) * x) / ((w : Int) - 1) else 0) + 8) / 16
theorem bM_in {a b x w : Nat} (ha : a ≤ 304) (hb : b ≤ 304) (hx : x < w) : 0 ≤ (a : Int) + (if 1 < w then (((b : Int) - a) * x) / ((w : Int) - 1) else 0) ∧ (a : Int) + (if 1 < w then (((b : Int) - a) * x) / ((w : Int) - 1) else 0) ≤ 304 := by
  by_cases h1 : 1 < w
  · rw [if_pos h1]
    have hw : 0 < (w : Int) - 1 := by omega
    by_cases h : a ≤ b
    · have l1 : 0 ≤ ((b : Int) - a) * x := Int.mul_nonneg (by omega) (by omega)
      have l2 : ((b : Int) - a) * x ≤ ((b : Int) - a) * ((w : Int) - 1) := Int.mul_le_mul_of_nonneg_left (by omega) (by omega)
      have l3 : 0 ≤ (((b : Int) - a) * x) / ((w : Int) - 1) := Int.ediv_nonneg l1 (by omega)
      have l4 : (((b : Int) - a) * x) / ((w : Int) - 1) ≤ (b : Int) - a := by
        apply Int.ediv_le_of_le_mul hw
        exact l2
      omega
    · have l1 : ((b : Int) - a) * ((w : Int) - 1) ≤ ((b : Int) - a) * x := by
        have := Int.mul_le_mul_of_nonneg_left (show (x : Int) ≤ (w : Int) - 1 by omega) (show 0 ≤ (a : Int) - b by omega)
        have e1 : ((a : Int) - b) * x = -(((b : Int) - a) * x) := by rw [← Int.neg_mul]; congr 1; omega
        have e2 : ((a : Int) - b) * ((w : Int) - 1) = -(((b : Int) - a) * ((w : Int) - 1)) := by rw [← Int.neg_mul]; congr 1; omega
        omega
      have l2 : ((b : Int) - a) * x ≤ 0 := Int.mul_nonpos_of_nonpos_of_nonneg (by omega) (by omega)
      have l3 : (b : Int) - a ≤ (((b : Int) - a) * x) / ((w : Int) - 1) := by
        apply (Int.le_ediv_iff_mul_le hw).mpr
        exact l1
      have l4 : (((b : Int) - a) * x) / ((w : Int) - 1) ≤ 0 := by
        apply Int.ediv_le_of_le_mul hw
        omega
      omega
  · rw [if_neg h1]
    omega
theorem bMid_in {a b x w : Nat} (ha : a ≤ 304) (hb : b ≤ 304) (hx : x < w) : 0 ≤ bMid a b x w ∧ bMid a b x w ≤ 19 := by
  have h := bM_in ha hb hx
  unfold bMid
  generalize (a : Int) + (if 1 < w then (((b : Int) - a) * x) / ((w : Int) - 1) else 0) = m at h
  omega
def bLo (a b r x w : Nat) : Int := if bMid a b x w - r < 0 then 0 else bMid a b x w - r
def bHi (a b r x w t : Nat) : Int := if bMid a b x w + r < (t : Int) - 1 then bMid a b x w + r else (t : Int) - 1
theorem bX {a b x : Nat} (ha : a ≤ 304) (hb : b ≤ 304) (hx : x < 20) : -6080 ≤ ((b : Int) - a) * x ∧ ((b : Int) - a) * x ≤ 6080 := by
  have h1 : (((b : Int) - a) * x).natAbs ≤ 304 * 20 := by
    rw [Int.natAbs_mul]
    exact Nat.mul_le_mul (by omega) (by omega)
  omega

set_option maxHeartbeats 4000000 in
set_option maxRecDepth 100000 in
theorem m_middleRow {G : eG} {ad : Nat → Nat} {h : Nat → va_E} (q : Nat) (v1 v2 : Value) (a b r co x w : Nat) (hq : q < 54) (ha : a ≤ 304) (hb : b ≤ 304) (hx : x < w) (hw : w ≤ 20) (hh : h q = .inr (0, [.int (nI a), .int (nI b), .int (nI r), .int (nI co), v1, v2])) : MC G M_X0_middleRow cX0_middleRow ad 54 [.ref (ad q), .int (nI x), .int (nI w)] h (IS (some (.int (iI (bMid a b x w)))) h) := by
  refine MC.of (by decide +kernel) (Nat.le_of_ble_eq_true rfl) (by dsimp only [linit, Nat.reduceSub, List.reduceReplicate] <;> rfl) ?_
  have hin := bM_in ha hb hx
  have hX := bX (x := x) ha hb (by omega)
  refine EV.aload_n (pc := 0) dX0_middleRow_0 rfl ?_
  refine EV.getf (pc := 1) dX0_middleRow_1 fgX0_22 hq hh rfl ?_
  refine EV.istore_n (pc := 4) 3 dX0_middleRow_4 rfl (by decide) (by dsimp only [lst1, lk] <;> rfl) ?_
  refine EV.iload_n (pc := 5) dX0_middleRow_5 rfl ?_
  refine EV.iconst (pc := 6) (v := 1) dX0_middleRow_6 (by decide) ?_
  refine EV.icmp_le (pc := 7) (tgt := 30) dX0_middleRow_7 (by decide) (fun c7 => ?_) (fun c7 => ?_)
  · refine EV.iload_n (pc := 30) dX0_middleRow_30 rfl ?_
    refine EV.bipush (pc := 31) (v := 8) dX0_middleRow_31 (by decide) ?_
    refine EV.iadd (pc := 33) dX0_middleRow_33 ?_
    refine EV.bipush (pc := 34) (v := 16) dX0_middleRow_34 (by decide) ?_
    refine EV.callSR1 (pc := 36) (M' := M_J9_floorDiv_7cf53) dX0_middleRow_36 lkX0_29 okS_J9_floorDiv_7cf53 (m_floorDivI _ _ (by decide +kernel)) (by decide) rfl rfl (Nat.le_of_ble_eq_true rfl) ?_
    refine EV.iret (pc := 39) dX0_middleRow_39 trivial ?_
    refine ⟨congrArg (fun z => some (Value.int z)) ?_, rfl⟩
    have e := nI_t (show w < 2147483648 by omega)
    simp only [Int32.le_iff_toInt_le, i_l1, e] at c7
    have hin2 := hin
    unfold bMid
    first
    | (rw [if_pos (by omega)] at hin2 ⊢; rw [nI_iI, show (8 : Int32) = iI 8 from iI_lit 8, iI_add, iI_add, iI_toInt (by omega) (by omega), show ((16 : Int32)).toInt = 16 from (by decide +kernel)])
    | (rw [if_neg (by omega)] at hin2 ⊢; rw [nI_iI, show (8 : Int32) = iI 8 from iI_lit 8, iI_add, iI_toInt (by omega) (by omega), show ((16 : Int32)).toInt = 16 from (by decide +kernel), Int.add_zero])
  · refine EV.iload_n (pc := 10) dX0_middleRow_10 rfl ?_
    refine EV.aload_n (pc := 11) dX0_middleRow_11 rfl ?_
    refine EV.getf (pc := 12) dX0_middleRow_12 fgX0_26 hq hh rfl ?_
    refine EV.aload_n (pc := 15) dX0_middleRow_15 rfl ?_
    refine EV.getf (pc := 16) dX0_middleRow_16 fgX0_22 hq hh rfl ?_
    refine EV.isub (pc := 19) dX0_middleRow_19 ?_
    refine EV.iload_n (pc := 20) dX0_middleRow_20 rfl ?_
    refine EV.imul (pc := 21) dX0_middleRow_21 ?_
    refine EV.iload_n (pc := 22) dX0_middleRow_22 rfl ?_
    refine EV.iconst (pc := 23) (v := 1) dX0_middleRow_23 (by decide) ?_
    refine EV.isub (pc := 24) dX0_middleRow_24 ?_
    refine EV.callSR1 (pc := 25) (M' := M_J9_floorDiv_7cf53) dX0_middleRow_25 lkX0_29 okS_J9_floorDiv_7cf53 (m_floorDivI _ _ (by rw [nI_iI, show (1 : Int32) = iI 1 from iI_lit 1, iI_sub, iI_toInt (by omega) (by omega)]; have := nI_t (show w < 2147483648 by omega); simp only [Int32.le_iff_toInt_le, i_l1, this] at c7; omega)) (by decide) rfl rfl (Nat.le_of_ble_eq_true rfl) ?_
    refine EV.topi (y := iI ((((b : Int) - a) * x) / ((w : Int) - 1))) (by rw [nI_iI, nI_iI, nI_iI, nI_iI, show (1 : Int32) = iI 1 from iI_lit 1, iI_sub, iI_sub, iI_mul, iI_toInt (by omega) (by omega), iI_toInt (by omega) (by omega)]) ?_
    refine EV.iadd (pc := 28) dX0_middleRow_28 ?_
    refine EV.istore_n (pc := 29) 3 dX0_middleRow_29 rfl (by decide) (by dsimp only [lst1, lk] <;> rfl) ?_
    refine EV.iload_n (pc := 30) dX0_middleRow_30 rfl ?_
    refine EV.bipush (pc := 31) (v := 8) dX0_middleRow_31 (by decide) ?_
    refine EV.iadd (pc := 33) dX0_middleRow_33 ?_
    refine EV.bipush (pc := 34) (v := 16) dX0_middleRow_34 (by decide) ?_
    refine EV.callSR1 (pc := 36) (M' := M_J9_floorDiv_7cf53) dX0_middleRow_36 lkX0_29 okS_J9_floorDiv_7cf53 (m_floorDivI _ _ (by decide +kernel)) (by decide) rfl rfl (Nat.le_of_ble_eq_true rfl) ?_
    refine EV.iret (pc := 39) dX0_middleRow_39 trivial ?_
    refine ⟨congrArg (fun z => some (Value.int z)) ?_, rfl⟩
    have e := nI_t (show w < 2147483648 by omega)
    simp only [Int32.le_iff_toInt_le, i_l1, e] at c7
    have hin2 := hin
    unfold bMid
    first
    | (rw [if_pos (by omega)] at hin2 ⊢; rw [nI_iI, show (8 : Int32) = iI 8 from iI_lit 8, iI_add, iI_add, iI_toInt (by omega) (by omega), show ((16 : Int32)).toInt = 16 from (by decide +kernel)])
    | (rw [if_neg (by omega)] at hin2 ⊢; rw [nI_iI, show (8 : Int32) = iI 8 from iI_lit 8, iI_add, iI_toInt (by omega) (by omega), show ((16 : Int32)).toInt = 16 from (by decide +kernel), Int.add_zero])
