set_option maxHeartbeats 4000000 in
set_option maxRecDepth 100000 in
theorem m_leastRow {G : eG} {ad : Nat → Nat} {h : Nat → va_E} (q q2 : Nat) (v1 v2 v3 : Value) (l la : Int32) (a b r co x w t : Nat) (hq : q < 54) (hq2 : q2 < 54) (ha : a ≤ 304) (hb : b ≤ 304) (hr : r ≤ 3) (hx : x < w) (hw : w ≤ 20) (ht : t ≤ 20) (hh : h q = .inr (0, [.int (nI a), .int (nI b), .int (nI r), .int (nI co), v1, v2])) (hh2 : h q2 = .inr (2, [.int l, .int la, .int (nI w), .int (nI t), v3])) : MC G M_X0_leastRow cX0_leastRow ad 54 [.ref (ad q), .int (nI x), .ref (ad q2)] h (IS (some (.int (iI (bLo a b r x w)))) h) := by
  refine MC.of (by decide +kernel) (Nat.le_of_ble_eq_true rfl) (by dsimp only [linit, Nat.reduceSub, List.reduceReplicate] <;> rfl) ?_
  have hin := bMid_in ha hb hx
  refine EV.iconst (pc := 0) (v := 0) dX0_leastRow_0 (by decide) ?_
  refine EV.aload_n (pc := 1) dX0_leastRow_1 rfl ?_
  refine EV.iload_n (pc := 2) dX0_leastRow_2 rfl ?_
  refine EV.aload_n (pc := 3) dX0_leastRow_3 rfl ?_
  refine EV.getf (pc := 4) dX0_leastRow_4 fgX0_35 hq2 hh2 rfl ?_
  refine EV.callVR1 (pc := 7) (M' := M_X0_middleRow) dX0_leastRow_7 lkX0_40 okV_X0_middleRow (m_middleRow q _ _ a b r co x w hq ha hb hx hw hh) (by decide) rfl rfl (Nat.le_of_ble_eq_true rfl) hq hh ?_
  refine EV.aload_n (pc := 10) dX0_leastRow_10 rfl ?_
  refine EV.getf (pc := 11) dX0_leastRow_11 fgX0_43 hq hh rfl ?_
  refine EV.isub (pc := 14) dX0_leastRow_14 ?_
  refine EV.callSR1 (pc := 15) (M' := M_J9_max_7cf53) dX0_leastRow_15 lkX0_46 okS_J9_max_7cf53 (m_max _ _) (by decide) rfl rfl (Nat.le_of_ble_eq_true rfl) ?_
  refine EV.iret (pc := 18) dX0_leastRow_18 trivial ?_
  refine ⟨congrArg (fun z => some (Value.int z)) ?_, rfl⟩
  unfold bLo
  rw [nI_iI, iI_sub, i_l0, iI_toInt (by omega) (by omega)]
  by_cases hc : bMid a b x w - r < 0
  · rw [if_neg (by omega), if_pos hc]; rfl
  · rw [if_neg hc]
    by_cases h0 : 0 < bMid a b x w - r
    · rw [if_pos h0]
    · rw [if_neg h0, show bMid a b x w - r = 0 by omega]; rfl

set_option maxHeartbeats 4000000 in
set_option maxRecDepth 100000 in
theorem m_greatestRow {G : eG} {ad : Nat → Nat} {h : Nat → va_E} (q q2 : Nat) (v1 v2 v3 : Value) (l la : Int32) (a b r co x w t : Nat) (hq : q < 54) (hq2 : q2 < 54) (ha : a ≤ 304) (hb : b ≤ 304) (hr : r ≤ 3) (hx : x < w) (hw : w ≤ 20) (ht : t ≤ 20) (hh : h q = .inr (0, [.int (nI a), .int (nI b), .int (nI r), .int (nI co), v1, v2])) (hh2 : h q2 = .inr (2, [.int l, .int la, .int (nI w), .int (nI t), v3])) : MC G M_X0_greatestRow cX0_greatestRow ad 54 [.ref (ad q), .int (nI x), .ref (ad q2)] h (IS (some (.int (iI (bHi a b r x w t)))) h) := by
  refine MC.of (by decide +kernel) (Nat.le_of_ble_eq_true rfl) (by dsimp only [linit, Nat.reduceSub, List.reduceReplicate] <;> rfl) ?_
  have hin := bMid_in ha hb hx
  refine EV.aload_n (pc := 0) dX0_greatestRow_0 rfl ?_
  refine EV.getf (pc := 1) dX0_greatestRow_1 fgX0_49 hq2 hh2 rfl ?_
  refine EV.iconst (pc := 4) (v := 1) dX0_greatestRow_4 (by decide) ?_
  refine EV.isub (pc := 5) dX0_greatestRow_5 ?_
  refine EV.aload_n (pc := 6) dX0_greatestRow_6 rfl ?_
  refine EV.iload_n (pc := 7) dX0_greatestRow_7 rfl ?_
  refine EV.aload_n (pc := 8) dX0_greatestRow_8 rfl ?_
  refine EV.getf (pc := 9) dX0_greatestRow_9 fgX0_35 hq2 hh2 rfl ?_
  refine EV.callVR1 (pc := 12) (M' := M_X0_middleRow) dX0_greatestRow_12 lkX0_40 okV_X0_middleRow (m_middleRow q _ _ a b r co x w hq ha hb hx hw hh) (by decide) rfl rfl (Nat.le_of_ble_eq_true rfl) hq hh ?_
  refine EV.aload_n (pc := 15) dX0_greatestRow_15 rfl ?_
  refine EV.getf (pc := 16) dX0_greatestRow_16 fgX0_43 hq hh rfl ?_
  refine EV.iadd (pc := 19) dX0_greatestRow_19 ?_
  refine EV.callSR1 (pc := 20) (M' := M_J9_min_7cf53) dX0_greatestRow_20 lkX0_52 okS_J9_min_7cf53 (m_min _ _) (by decide) rfl rfl (Nat.le_of_ble_eq_true rfl) ?_
  refine EV.iret (pc := 23) dX0_greatestRow_23 trivial ?_
  refine ⟨congrArg (fun z => some (Value.int z)) ?_, rfl⟩
  unfold bHi
  rw [nI_iI, nI_iI, iI_add, show (1 : Int32) = iI 1 from iI_lit 1, iI_sub, iI_toInt (by omega) (by omega), iI_toInt (by omega) (by omega)]
  by_cases hc : bMid a b x w + r < (t : Int) - 1
  · rw [if_pos hc, if_pos hc]
  · rw [if_neg hc, if_neg hc]
