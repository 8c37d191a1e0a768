set_option maxHeartbeats 4000000 in
set_option maxRecDepth 100000 in
theorem n_middle {G : eG} {ad : Nat → Nat} {h : Nat → va_E}  {s : St} {z : Zm} {hm : Nat → va_E} (hw : MW G ad s z hm h) (c x w : Nat) (hc : c < 4) (ha : s_ca s c ≤ 304) (hb : s_cb s c ≤ 304) (hx : x < w) (hw20 : w ≤ 20) : MC G M_X5_middle cX5_middle ad 54 [.ref (ad 34), .int (nI c), .int (nI x), .int (nI w)] h (IS (some (.int (iI (bMid (s_ca s c) (s_cb s c) x w)))) h) := by
  refine MC.of (by decide +kernel) (Nat.le_of_ble_eq_true rfl) (by dsimp only [linit, Nat.reduceSub, List.reduceReplicate] <;> rfl) ?_
  have en := nI_t (show w < 2147483648 by omega)
  have q1 := bM_in (x := x) (w := w) ha hb hx
  have q2 := bX ha hb (show x < 20 by omega)
  refine EV.aload_n (pc := 0) dX5_middle_0 rfl ?_
  refine EV.getf (pc := 1) dX5_middle_1 fgX5_29 (by decide) hw.h34 rfl ?_
  refine EV.iload_n (pc := 4) dX5_middle_4 rfl ?_
  refine EV.iald (pc := 5) dX5_middle_5 (by decide) hw.h41 (vp_in_nI (show c < 4 by omega) (by omega)) ?_
  refine EV.topi (y := nI (s_ca s c)) (by rw [nI_clamp (by omega)]) ?_
  refine EV.istore (pc := 6) dX5_middle_6 (by decide) (by dsimp only [lst1, lk] <;> rfl) ?_
  refine EV.iload_n (pc := 8) dX5_middle_8 rfl ?_
  refine EV.iconst (pc := 9) (v := 1) dX5_middle_9 (by decide) ?_
  refine EV.icmp_le (pc := 10) (tgt := 43) dX5_middle_10 (by decide) (fun c10 => ?_) (fun c10 => ?_)
  · try simp only [Int32.lt_iff_toInt_lt, Int32.le_iff_toInt_le, ← Int32.toInt_inj, Int64.lt_iff_toInt_lt, Int64.le_iff_toInt_le, ← Int64.toInt_inj, Int32.toInt_toInt64, i_l0, i_l1, i_l2, i_l5, i_l19, i_m1, j_l0, j_l1, j_l5, i_l3, i_l4, i_l6, i_l7, i_l8, i_l9, i_l12, i_l16, i_l20, i_l60, i_l64, i_l100, i_l200, i_l304, i_l2000, i_l10000, i_l100000, i_l1000000, i_n1000000, i_n19, i_n101, en] at c10
    refine EV.iload (pc := 43) dX5_middle_43 rfl ?_
    refine EV.bipush (pc := 45) (v := 8) dX5_middle_45 (by decide) ?_
    refine EV.iadd (pc := 47) dX5_middle_47 ?_
    refine EV.topi (y := iI (((s_ca s c : Int) + (if 1 < w then (((s_cb s c : Int) - s_ca s c) * x) / ((w : Int) - 1) else 0)) + 8)) (by first | (rw [if_pos (by omega), show (8 : Int32) = iI 8 from iI_lit 8, nI_iI, iI_add, iI_add]) | (rw [if_neg (by omega), nI_iI, show (8 : Int32) = iI 8 from iI_lit 8, iI_add, Int.add_zero])) ?_
    refine EV.bipush (pc := 48) (v := 16) dX5_middle_48 (by decide) ?_
    refine EV.idiv (pc := 50) dX5_middle_50 (by decide) ?_
    refine EV.iret (pc := 51) dX5_middle_51 trivial ?_
    exact ⟨congrArg (fun z => some (Value.int z)) (by rw [show (16 : Int32) = iI 16 from iI_lit 16, iI_tdiv (by omega) (by omega) (by omega) (by omega), fl_pos (by omega)]; rfl), rfl⟩
  · try simp only [Int32.lt_iff_toInt_lt, Int32.le_iff_toInt_le, ← Int32.toInt_inj, Int64.lt_iff_toInt_lt, Int64.le_iff_toInt_le, ← Int64.toInt_inj, Int32.toInt_toInt64, i_l0, i_l1, i_l2, i_l5, i_l19, i_m1, j_l0, j_l1, j_l5, i_l3, i_l4, i_l6, i_l7, i_l8, i_l9, i_l12, i_l16, i_l20, i_l60, i_l64, i_l100, i_l200, i_l304, i_l2000, i_l10000, i_l100000, i_l1000000, i_n1000000, i_n19, i_n101, en] at c10
    refine EV.iload (pc := 13) dX5_middle_13 rfl ?_
    refine EV.aload_n (pc := 15) dX5_middle_15 rfl ?_
    refine EV.getf (pc := 16) dX5_middle_16 fgX5_32 (by decide) hw.h34 rfl ?_
    refine EV.iload_n (pc := 19) dX5_middle_19 rfl ?_
    refine EV.iald (pc := 20) dX5_middle_20 (by decide) hw.h42 (vp_in_nI (show c < 4 by omega) (by omega)) ?_
    refine EV.topi (y := nI (s_cb s c)) (by rw [nI_clamp (by omega)]) ?_
    refine EV.aload_n (pc := 21) dX5_middle_21 rfl ?_
    refine EV.getf (pc := 22) dX5_middle_22 fgX5_29 (by decide) hw.h34 rfl ?_
    refine EV.iload_n (pc := 25) dX5_middle_25 rfl ?_
    refine EV.iald (pc := 26) dX5_middle_26 (by decide) hw.h41 (vp_in_nI (show c < 4 by omega) (by omega)) ?_
    refine EV.topi (y := nI (s_ca s c)) (by rw [nI_clamp (by omega)]) ?_
    refine EV.isub (pc := 27) dX5_middle_27 ?_
    refine EV.i2l (pc := 28) dX5_middle_28 ?_
    refine EV.topl (y := jI ((s_cb s c : Int) - s_ca s c)) (by rw [nI_iI, nI_iI, iI_sub, iI_l (by omega) (by omega)]) ?_
    refine EV.iload_n (pc := 29) dX5_middle_29 rfl ?_
    refine EV.i2l (pc := 30) dX5_middle_30 ?_
    refine EV.topl (y := jI (x : Int)) (by rw [nI_iI, iI_l (by omega) (by omega)]) ?_
    refine EV.lmul (pc := 31) dX5_middle_31 ?_
    refine EV.topl (y := jI (((s_cb s c : Int) - s_ca s c) * x)) (jI_mul _ _) ?_
    refine EV.iload_n (pc := 32) dX5_middle_32 rfl ?_
    refine EV.iconst (pc := 33) (v := 1) dX5_middle_33 (by decide) ?_
    refine EV.isub (pc := 34) dX5_middle_34 ?_
    refine EV.i2l (pc := 35) dX5_middle_35 ?_
    refine EV.topl (y := jI ((w : Int) - 1)) (by rw [nI_iI, show (1 : Int32) = iI 1 from iI_lit 1, iI_sub, iI_l (by omega) (by omega)]) ?_
    refine EV.callSR1 (pc := 36) (M' := M_X5_floor) dX5_middle_36 lkX5_120 okS_X5_floor (n_floor _ _ (by rw [jI_toInt (by omega) (by omega)]; omega)) (by decide) rfl rfl (Nat.le_of_ble_eq_true rfl) ?_
    refine EV.topl (y := jI ((((s_cb s c : Int) - s_ca s c) * x) / ((w : Int) - 1))) (by rw [jI_toInt (by omega) (by omega), jI_toInt (by omega) (by omega)]) ?_
    refine EV.l2i (pc := 39) dX5_middle_39 ?_
    refine EV.topi (y := iI ((((s_cb s c : Int) - s_ca s c) * x) / ((w : Int) - 1))) (jI_i _) ?_
    refine EV.iadd (pc := 40) dX5_middle_40 ?_
    refine EV.istore (pc := 41) dX5_middle_41 (by decide) (by dsimp only [lst1, lk] <;> rfl) ?_
    refine EV.iload (pc := 43) dX5_middle_43 rfl ?_
    refine EV.bipush (pc := 45) (v := 8) dX5_middle_45 (by decide) ?_
    refine EV.iadd (pc := 47) dX5_middle_47 ?_
    refine EV.topi (y := iI (((s_ca s c : Int) + (if 1 < w then (((s_cb s c : Int) - s_ca s c) * x) / ((w : Int) - 1) else 0)) + 8)) (by first | (rw [if_pos (by omega), show (8 : Int32) = iI 8 from iI_lit 8, nI_iI, iI_add, iI_add]) | (rw [if_neg (by omega), nI_iI, show (8 : Int32) = iI 8 from iI_lit 8, iI_add, Int.add_zero])) ?_
    refine EV.bipush (pc := 48) (v := 16) dX5_middle_48 (by decide) ?_
    refine EV.idiv (pc := 50) dX5_middle_50 (by decide) ?_
    refine EV.iret (pc := 51) dX5_middle_51 trivial ?_
    exact ⟨congrArg (fun z => some (Value.int z)) (by rw [show (16 : Int32) = iI 16 from iI_lit 16, iI_tdiv (by omega) (by omega) (by omega) (by omega), fl_pos (by omega)]; rfl), rfl⟩

set_option maxHeartbeats 4000000 in
set_option maxRecDepth 100000 in
theorem n_first {G : eG} {ad : Nat → Nat} {h : Nat → va_E}  {s : St} {z : Zm} {hm : Nat → va_E} (hw : MW G ad s z hm h) (c p x : Nat) (hI : Inv s) (hc : c < 4) (hp : p < 6) (hx : x < s_w s p) : MC G M_X5_firstRow cX5_firstRow ad 54 [.ref (ad 34), .int (nI c), .int (nI p), .int (nI x)] h (IS (some (.int (nI (rLo s c p x)))) h) := by
  refine MC.of (by decide +kernel) (Nat.le_of_ble_eq_true rfl) (by dsimp only [linit, Nat.reduceSub, List.reduceReplicate] <;> rfl) ?_
  have hb := hI.2.2.2.1 c hc
  have hd := hI.1 p hp
  have r1 := rLo_in hI hc hp hx
  have r2 := rHi_in hI hc hp hx
  have q1 := bMid_in (x := x) (w := s_w s p) hb.1 hb.2.1 hx
  have eM := iI_toInt (a := (bMid (s_ca s c) (s_cb s c) x (s_w s p)) - s_cr s c) (by omega) (by omega)
  refine EV.aload_n (pc := 0) dX5_firstRow_0 rfl ?_
  refine EV.iload_n (pc := 1) dX5_firstRow_1 rfl ?_
  refine EV.iload_n (pc := 2) dX5_firstRow_2 rfl ?_
  refine EV.aload_n (pc := 3) dX5_firstRow_3 rfl ?_
  refine EV.getf (pc := 4) dX5_firstRow_4 fgX5_17 (by decide) hw.h34 rfl ?_
  refine EV.iload_n (pc := 7) dX5_firstRow_7 rfl ?_
  refine EV.iald (pc := 8) dX5_firstRow_8 (by decide) hw.h37 (vp_in_nI (show p < 6 by omega) (by omega)) ?_
  refine EV.topi (y := nI (s_w s p)) (by rw [nI_clamp (by omega)]) ?_
  refine EV.callVR1 (pc := 9) (M' := M_X5_middle) dX5_firstRow_9 lkX5_124 okV_X5_middle (n_middle hw c x (s_w s p) hc hb.1 hb.2.1 hx hd.1) (by decide) rfl rfl (Nat.le_of_ble_eq_true rfl) (by decide) hw.h34 ?_
  refine EV.aload_n (pc := 12) dX5_firstRow_12 rfl ?_
  refine EV.getf (pc := 13) dX5_firstRow_13 fgX5_35 (by decide) hw.h34 rfl ?_
  refine EV.iload_n (pc := 16) dX5_firstRow_16 rfl ?_
  refine EV.iald (pc := 17) dX5_firstRow_17 (by decide) hw.h43 (vp_in_nI (show c < 4 by omega) (by omega)) ?_
  refine EV.topi (y := nI (s_cr s c)) (by rw [nI_clamp (by omega)]) ?_
  refine EV.isub (pc := 18) dX5_firstRow_18 ?_
  refine EV.topi (y := iI ((bMid (s_ca s c) (s_cb s c) x (s_w s p)) - s_cr s c)) (by rw [nI_iI, iI_sub]) ?_
  refine EV.istore (pc := 19) dX5_firstRow_19 (by decide) (by dsimp only [lst1, lk] <;> rfl) ?_
  refine EV.iload (pc := 21) dX5_firstRow_21 rfl ?_
  refine EV.if_ge (pc := 23) (tgt := 30) dX5_firstRow_23 (by decide) (fun c23 => ?_) (fun c23 => ?_)
  · try simp only [Int32.lt_iff_toInt_lt, Int32.le_iff_toInt_le, ← Int32.toInt_inj, Int64.lt_iff_toInt_lt, Int64.le_iff_toInt_le, ← Int64.toInt_inj, Int32.toInt_toInt64, i_l0, i_l1, i_l2, i_l5, i_l19, i_m1, j_l0, j_l1, j_l5, i_l3, i_l4, i_l6, i_l7, i_l8, i_l9, i_l12, i_l16, i_l20, i_l60, i_l64, i_l100, i_l200, i_l304, i_l2000, i_l10000, i_l100000, i_l1000000, i_n1000000, i_n19, i_n101, eM] at c23
    refine EV.iload (pc := 30) dX5_firstRow_30 rfl ?_
    refine EV.iret (pc := 32) dX5_firstRow_32 trivial ?_
    refine ⟨congrArg (fun z => some (Value.int z)) ?_, rfl⟩
    rw [nI_iI, ← r1.1]
    unfold bLo
    first | (rw [if_neg (by omega)]) | (rw [if_pos (by omega)]; rfl)
  · try simp only [Int32.lt_iff_toInt_lt, Int32.le_iff_toInt_le, ← Int32.toInt_inj, Int64.lt_iff_toInt_lt, Int64.le_iff_toInt_le, ← Int64.toInt_inj, Int32.toInt_toInt64, i_l0, i_l1, i_l2, i_l5, i_l19, i_m1, j_l0, j_l1, j_l5, i_l3, i_l4, i_l6, i_l7, i_l8, i_l9, i_l12, i_l16, i_l20, i_l60, i_l64, i_l100, i_l200, i_l304, i_l2000, i_l10000, i_l100000, i_l1000000, i_n1000000, i_n19, i_n101, eM] at c23
    refine EV.iconst (pc := 26) (v := 0) dX5_firstRow_26 (by decide) ?_
    refine EV.goto (pc := 27) (tgt := 32) dX5_firstRow_27 (by decide) ?_
    refine EV.iret (pc := 32) dX5_firstRow_32 trivial ?_
    refine ⟨congrArg (fun z => some (Value.int z)) ?_, rfl⟩
    rw [nI_iI, ← r1.1]
    unfold bLo
    first | (rw [if_neg (by omega)]) | (rw [if_pos (by omega)]; rfl)

set_option maxHeartbeats 4000000 in
set_option maxRecDepth 100000 in
theorem n_last {G : eG} {ad : Nat → Nat} {h : Nat → va_E}  {s : St} {z : Zm} {hm : Nat → va_E} (hw : MW G ad s z hm h) (c p x : Nat) (hI : Inv s) (hc : c < 4) (hp : p < 6) (hx : x < s_w s p) : MC G M_X5_lastRow cX5_lastRow ad 54 [.ref (ad 34), .int (nI c), .int (nI p), .int (nI x)] h (IS (some (.int (iI (rHi s c p x)))) h) := by
  refine MC.of (by decide +kernel) (Nat.le_of_ble_eq_true rfl) (by dsimp only [linit, Nat.reduceSub, List.reduceReplicate] <;> rfl) ?_
  have hb := hI.2.2.2.1 c hc
  have hd := hI.1 p hp
  have r1 := rLo_in hI hc hp hx
  have r2 := rHi_in hI hc hp hx
  have q1 := bMid_in (x := x) (w := s_w s p) hb.1 hb.2.1 hx
  have eM := iI_toInt (a := (bMid (s_ca s c) (s_cb s c) x (s_w s p)) + s_cr s c) (by omega) (by omega)
  have eh := nI_t (show s_h s p < 2147483648 by omega)
  refine EV.aload_n (pc := 0) dX5_lastRow_0 rfl ?_
  refine EV.iload_n (pc := 1) dX5_lastRow_1 rfl ?_
  refine EV.iload_n (pc := 2) dX5_lastRow_2 rfl ?_
  refine EV.aload_n (pc := 3) dX5_lastRow_3 rfl ?_
  refine EV.getf (pc := 4) dX5_lastRow_4 fgX5_17 (by decide) hw.h34 rfl ?_
  refine EV.iload_n (pc := 7) dX5_lastRow_7 rfl ?_
  refine EV.iald (pc := 8) dX5_lastRow_8 (by decide) hw.h37 (vp_in_nI (show p < 6 by omega) (by omega)) ?_
  refine EV.topi (y := nI (s_w s p)) (by rw [nI_clamp (by omega)]) ?_
  refine EV.callVR1 (pc := 9) (M' := M_X5_middle) dX5_lastRow_9 lkX5_124 okV_X5_middle (n_middle hw c x (s_w s p) hc hb.1 hb.2.1 hx hd.1) (by decide) rfl rfl (Nat.le_of_ble_eq_true rfl) (by decide) hw.h34 ?_
  refine EV.aload_n (pc := 12) dX5_lastRow_12 rfl ?_
  refine EV.getf (pc := 13) dX5_lastRow_13 fgX5_35 (by decide) hw.h34 rfl ?_
  refine EV.iload_n (pc := 16) dX5_lastRow_16 rfl ?_
  refine EV.iald (pc := 17) dX5_lastRow_17 (by decide) hw.h43 (vp_in_nI (show c < 4 by omega) (by omega)) ?_
  refine EV.topi (y := nI (s_cr s c)) (by rw [nI_clamp (by omega)]) ?_
  refine EV.iadd (pc := 18) dX5_lastRow_18 ?_
  refine EV.topi (y := iI ((bMid (s_ca s c) (s_cb s c) x (s_w s p)) + s_cr s c)) (by rw [nI_iI, iI_add]) ?_
  refine EV.istore (pc := 19) dX5_lastRow_19 (by decide) (by dsimp only [lst1, lk] <;> rfl) ?_
  refine EV.iload (pc := 21) dX5_lastRow_21 rfl ?_
  refine EV.aload_n (pc := 23) dX5_lastRow_23 rfl ?_
  refine EV.getf (pc := 24) dX5_lastRow_24 fgX5_20 (by decide) hw.h34 rfl ?_
  refine EV.iload_n (pc := 27) dX5_lastRow_27 rfl ?_
  refine EV.iald (pc := 28) dX5_lastRow_28 (by decide) hw.h38 (vp_in_nI (show p < 6 by omega) (by omega)) ?_
  refine EV.topi (y := nI (s_h s p)) (by rw [nI_clamp (by omega)]) ?_
  refine EV.icmp_ge (pc := 29) (tgt := 37) dX5_lastRow_29 (by decide) (fun c29 => ?_) (fun c29 => ?_)
  · try simp only [Int32.lt_iff_toInt_lt, Int32.le_iff_toInt_le, ← Int32.toInt_inj, Int64.lt_iff_toInt_lt, Int64.le_iff_toInt_le, ← Int64.toInt_inj, Int32.toInt_toInt64, i_l0, i_l1, i_l2, i_l5, i_l19, i_m1, j_l0, j_l1, j_l5, i_l3, i_l4, i_l6, i_l7, i_l8, i_l9, i_l12, i_l16, i_l20, i_l60, i_l64, i_l100, i_l200, i_l304, i_l2000, i_l10000, i_l100000, i_l1000000, i_n1000000, i_n19, i_n101, eM, eh] at c29
    refine EV.aload_n (pc := 37) dX5_lastRow_37 rfl ?_
    refine EV.getf (pc := 38) dX5_lastRow_38 fgX5_20 (by decide) hw.h34 rfl ?_
    refine EV.iload_n (pc := 41) dX5_lastRow_41 rfl ?_
    refine EV.iald (pc := 42) dX5_lastRow_42 (by decide) hw.h38 (vp_in_nI (show p < 6 by omega) (by omega)) ?_
    refine EV.topi (y := nI (s_h s p)) (by rw [nI_clamp (by omega)]) ?_
    refine EV.iconst (pc := 43) (v := 1) dX5_lastRow_43 (by decide) ?_
    refine EV.isub (pc := 44) dX5_lastRow_44 ?_
    refine EV.topi (y := iI ((s_h s p : Int) - 1)) (by rw [nI_iI, show (1 : Int32) = iI 1 from iI_lit 1, iI_sub]) ?_
    refine EV.iret (pc := 45) dX5_lastRow_45 trivial ?_
    refine ⟨congrArg (fun z => some (Value.int z)) (iI_b ?_), rfl⟩
    unfold rHi bHi
    split <;> omega
  · try simp only [Int32.lt_iff_toInt_lt, Int32.le_iff_toInt_le, ← Int32.toInt_inj, Int64.lt_iff_toInt_lt, Int64.le_iff_toInt_le, ← Int64.toInt_inj, Int32.toInt_toInt64, i_l0, i_l1, i_l2, i_l5, i_l19, i_m1, j_l0, j_l1, j_l5, i_l3, i_l4, i_l6, i_l7, i_l8, i_l9, i_l12, i_l16, i_l20, i_l60, i_l64, i_l100, i_l200, i_l304, i_l2000, i_l10000, i_l100000, i_l1000000, i_n1000000, i_n19, i_n101, eM, eh] at c29
    refine EV.iload (pc := 32) dX5_lastRow_32 rfl ?_
    refine EV.goto (pc := 34) (tgt := 45) dX5_lastRow_34 (by decide) ?_
    refine EV.iret (pc := 45) dX5_lastRow_45 trivial ?_
    refine ⟨congrArg (fun z => some (Value.int z)) (iI_b ?_), rfl⟩
    unfold rHi bHi
    split <;> omega

theorem d01 {d : Int32} : (0 ≤ d.toInt ∧ d.toInt ≤ 1) ↔ (d = 0 ∨ d = 1) := by
  rw [← Int32.toInt_inj, ← Int32.toInt_inj, i_l0, i_l1]
  omega
theorem pl4 (p x y : Nat) : 400 * nI p + 20 * nI y + nI x = nI (400 * p + (y * 20 + x)) := by
  rw [show (400 : Int32) = nI 400 from rfl, show (20 : Int32) = nI 20 from rfl, pk_mul, pk_mul, nI_add, nI_add]
  congr 1
  omega
theorem ix2' (y x : Nat) : 20 * nI y + nI x = nI (y * 20 + x) := by
  rw [ix2]
  congr 1
  omega

set_option maxHeartbeats 4000000 in
set_option maxRecDepth 100000 in
theorem q_band {G : eG} {ad : Nat → Nat} {h : Nat → va_E} {s : St} {z : Zm} {hm : Nat → va_E} (hw : MW G ad s z hm h) (hI : Inv s) (u v x d : Int32)  : MC G M_X5_band cX5_band ad 54 [.ref (ad 34), .int u, .int v, .int x, .int d] h (PM G ad hm (.int (f_band s u v x d).1) (f_band s u v x d).2) := by
  have hcn : s_cn s ≤ 4 := hI.2.2.1
  by_cases hpc : 0 ≤ u.toInt ∧ u.toInt < s_cn s
  · obtain ⟨c, rfl, ec, lc⟩ := i_nat hpc.1
    have hc : c < s_cn s := by omega
    have hc4 : c < 4 := by omega
    have hbc := hI.2.2.2.1 c hc4
    by_cases hpp : 0 ≤ v.toInt ∧ v.toInt ≤ 5
    · obtain ⟨p, rfl, ep, lp⟩ := i_nat hpp.1
      have hp : p < 6 := by omega
      have hdp := hI.1 p hp
      have e0 : f_band s (nI c) (nI p) x d = g_band s c p x d := by unfold f_band; rw [if_pos ⟨hpc, hpp⟩, nI_tn (by omega), nI_tn (by omega)]
      rw [e0]
      have en : (nI (s_w s p) - 1).toInt = (s_w s p : Int) - 1 := by rw [nI_iI, show (1 : Int32) = iI 1 from iI_lit 1, iI_sub, iI_toInt (by omega) (by omega)]
      refine MC.of (by decide +kernel) (Nat.le_of_ble_eq_true rfl) (by dsimp only [linit, Nat.reduceSub, List.reduceReplicate] <;> rfl) ?_
      refine EV.aload_n (pc := 0) dX5_band_0 rfl ?_
      refine EV.iload_n (pc := 1) dX5_band_1 rfl ?_
      refine EV.callVR1 (pc := 2) (M' := M_X5_isComb) dX5_band_2 lkX5_117 okV_X5_isComb (n_isComb _ hw hcn) (by decide) rfl rfl (Nat.le_of_ble_eq_true rfl) (by decide) hw.h34 ?_
      refine EV.if_eq (pc := 5) (tgt := 15) dX5_band_5 (by decide) (fun q => absurd q (fun q => b2i_F q hpc)) (fun _ => ?_)
      refine EV.iload_n (pc := 8) dX5_band_8 rfl ?_
      refine EV.callSR1 (pc := 9) (M' := M_X5_isPlate) dX5_band_9 lkX5_82 okS_X5_isPlate (n_isPlate _) (by decide) rfl rfl (Nat.le_of_ble_eq_true rfl) ?_
      refine EV.if_ne (pc := 12) (tgt := 18) dX5_band_12 (by decide) (fun _ => ?_) (fun q => absurd q (fun q => b2i_F q hpp))
      refine EV.iload (pc := 18) dX5_band_18 rfl ?_
      refine EV.i2l (pc := 20) dX5_band_20 ?_
      refine EV.lconst (pc := 21) (v := 0) dX5_band_21 (by decide) ?_
      refine EV.lconst (pc := 22) (v := 1) dX5_band_22 (by decide) ?_
      refine EV.callSR1 (pc := 23) (M' := M_X5_in) dX5_band_23 lkX5_75 okS_X5_in (n_in _ _ _) (by decide) rfl rfl (Nat.le_of_ble_eq_true rfl) ?_
      refine EV.if_ne (pc := 26) (tgt := 32) dX5_band_26 (by decide) (fun c26 => ?_) (fun c26 => ?_)
      · replace c26 := b2i_T c26
        try simp only [Int32.toInt_toInt64, j_l0, j_l1, en, d01] at c26
        refine EV.aload_n (pc := 32) dX5_band_32 rfl ?_
        refine EV.getf (pc := 33) dX5_band_33 fgX5_7 (by decide) hw.h34 rfl ?_
        refine EV.iload_n (pc := 36) dX5_band_36 rfl ?_
        refine EV.zald (pc := 37) dX5_band_37 (by decide) hw.h35 (vp_in_nI (show p < 6 by omega) (by omega)) ?_
        refine EV.topi (y := b2i (!(s_lost s p))) (by rw [nI_clamp (by omega)]) ?_
        refine EV.if_ne (pc := 38) (tgt := 48) dX5_band_38 (by decide) (fun c38 => ?_) (fun c38 => ?_)
        · try simp only [Int32.toInt_toInt64, j_l0, j_l1, en, d01] at c38
          refine EV.iload_n (pc := 48) dX5_band_48 rfl ?_
          refine EV.i2l (pc := 49) dX5_band_49 ?_
          refine EV.lconst (pc := 50) (v := 0) dX5_band_50 (by decide) ?_
          refine EV.aload_n (pc := 51) dX5_band_51 rfl ?_
          refine EV.getf (pc := 52) dX5_band_52 fgX5_17 (by decide) hw.h34 rfl ?_
          refine EV.iload_n (pc := 55) dX5_band_55 rfl ?_
          refine EV.iald (pc := 56) dX5_band_56 (by decide) hw.h37 (vp_in_nI (show p < 6 by omega) (by omega)) ?_
          refine EV.topi (y := nI (s_w s p)) (by rw [nI_clamp (by omega)]) ?_
          refine EV.iconst (pc := 57) (v := 1) dX5_band_57 (by decide) ?_
          refine EV.isub (pc := 58) dX5_band_58 ?_
          refine EV.i2l (pc := 59) dX5_band_59 ?_
          refine EV.callSR1 (pc := 60) (M' := M_X5_in) dX5_band_60 lkX5_75 okS_X5_in (n_in _ _ _) (by decide) rfl rfl (Nat.le_of_ble_eq_true rfl) ?_
          refine EV.if_ne (pc := 63) (tgt := 73) dX5_band_63 (by decide) (fun c63 => ?_) (fun c63 => ?_)
          · replace c63 := b2i_T c63
            try simp only [Int32.toInt_toInt64, j_l0, j_l1, en, d01] at c63
            obtain ⟨x1, rfl, ex1, lx1⟩ := i_nat (show 0 ≤ x.toInt by omega)
            have hx : x1 < s_w s p := by omega
            have r1 := rLo_in hI hc4 hp hx
            have r2 := rHi_in hI hc4 hp hx
            refine EV.aload_n (pc := 73) dX5_band_73 rfl ?_
            refine EV.iload_n (pc := 74) dX5_band_74 rfl ?_
            refine EV.iload_n (pc := 75) dX5_band_75 rfl ?_
            refine EV.iload_n (pc := 76) dX5_band_76 rfl ?_
            refine EV.callVR1 (pc := 77) (M' := M_X5_firstRow) dX5_band_77 lkX5_127 okV_X5_firstRow (n_first hw c p x1 hI hc4 hp hx) (by decide) rfl rfl (Nat.le_of_ble_eq_true rfl) (by decide) hw.h34 ?_
            refine EV.istore (pc := 80) dX5_band_80 (by decide) (by dsimp only [lst1, lk] <;> rfl) ?_
            refine EV.aload_n (pc := 82) dX5_band_82 rfl ?_
            refine EV.iload_n (pc := 83) dX5_band_83 rfl ?_
            refine EV.iload_n (pc := 84) dX5_band_84 rfl ?_
            refine EV.iload_n (pc := 85) dX5_band_85 rfl ?_
            refine EV.callVR1 (pc := 86) (M' := M_X5_lastRow) dX5_band_86 lkX5_130 okV_X5_lastRow (n_last hw c p x1 hI hc4 hp hx) (by decide) rfl rfl (Nat.le_of_ble_eq_true rfl) (by decide) hw.h34 ?_
            refine EV.istore (pc := 89) dX5_band_89 (by decide) (by dsimp only [lst1, lk] <;> rfl) ?_
            refine EV.aload_n (pc := 91) dX5_band_91 rfl ?_
            refine EV.iload (pc := 92) dX5_band_92 rfl ?_
            refine EV.iload (pc := 94) dX5_band_94 rfl ?_
            refine EV.icmp_le (pc := 96) (tgt := 103) dX5_band_96 (by decide) (fun c96 => ?_) (fun c96 => ?_)
            · try simp only [Int32.toInt_toInt64, j_l0, j_l1, en, d01] at c96
              refine EV.iload (pc := 103) dX5_band_103 rfl ?_
              refine EV.if_ne (pc := 105) (tgt := 113) dX5_band_105 (by decide) (fun c105 => ?_) (fun c105 => ?_)
              · try simp only [Int32.toInt_toInt64, j_l0, j_l1, en, d01] at c105
                refine EV.iload (pc := 113) dX5_band_113 rfl ?_
                refine EV.putf (pc := 115) dX5_band_115 fpX5_110 (by decide) hw.h34 rfl rfl (Nat.le_of_ble_eq_true rfl) ?_
                refine EV.abs (Pr := MW G ad (S_sn s (if rHi s c p x1 < rLo s c p x1 then -1 else if d = 0 then nI (rLo s c p x1) else iI (rHi s c p x1))) z hm) (by
              rw [nI_iI, iI_le (by omega) (by omega) (by omega) (by omega)] at c96
              first
              | (rw [if_pos (by omega)]; exact hw.set_sn _)
              | (rw [if_neg (by omega), if_pos c105, nI_iI]; exact hw.set_sn _)
              | (rw [if_neg (by omega), if_neg c105]; exact hw.set_sn _)) (fun h hw => ?_)
                refine EV.iconst (pc := 118) (v := 1) dX5_band_118 (by decide) ?_
                refine EV.iret (pc := 119) dX5_band_119 trivial ?_
                exact PM.i (by unfold g_band; rw [if_pos c26, if_neg (by rw [nb_F c38]; simp), if_pos (by omega), nI_tn (by omega)]) hw
              · try simp only [Int32.toInt_toInt64, j_l0, j_l1, en, d01] at c105
                refine EV.iload (pc := 108) dX5_band_108 rfl ?_
                refine EV.goto (pc := 110) (tgt := 115) dX5_band_110 (by decide) ?_
                refine EV.putf (pc := 115) dX5_band_115 fpX5_110 (by decide) hw.h34 rfl rfl (Nat.le_of_ble_eq_true rfl) ?_
                refine EV.abs (Pr := MW G ad (S_sn s (if rHi s c p x1 < rLo s c p x1 then -1 else if d = 0 then nI (rLo s c p x1) else iI (rHi s c p x1))) z hm) (by
              rw [nI_iI, iI_le (by omega) (by omega) (by omega) (by omega)] at c96
              first
              | (rw [if_pos (by omega)]; exact hw.set_sn _)
              | (rw [if_neg (by omega), if_pos c105, nI_iI]; exact hw.set_sn _)
              | (rw [if_neg (by omega), if_neg c105]; exact hw.set_sn _)) (fun h hw => ?_)
                refine EV.iconst (pc := 118) (v := 1) dX5_band_118 (by decide) ?_
                refine EV.iret (pc := 119) dX5_band_119 trivial ?_
                exact PM.i (by unfold g_band; rw [if_pos c26, if_neg (by rw [nb_F c38]; simp), if_pos (by omega), nI_tn (by omega)]) hw
            · try simp only [Int32.toInt_toInt64, j_l0, j_l1, en, d01] at c96
              refine EV.iconst (pc := 99) (v := -1) dX5_band_99 (by decide) ?_
              refine EV.goto (pc := 100) (tgt := 115) dX5_band_100 (by decide) ?_
              refine EV.putf (pc := 115) dX5_band_115 fpX5_110 (by decide) hw.h34 rfl rfl (Nat.le_of_ble_eq_true rfl) ?_
              refine EV.abs (Pr := MW G ad (S_sn s (if rHi s c p x1 < rLo s c p x1 then -1 else if d = 0 then nI (rLo s c p x1) else iI (rHi s c p x1))) z hm) (by
              rw [nI_iI, iI_le (by omega) (by omega) (by omega) (by omega)] at c96
              first
              | (rw [if_pos (by omega)]; exact hw.set_sn _)
              | (rw [if_neg (by omega), if_pos c105, nI_iI]; exact hw.set_sn _)
              | (rw [if_neg (by omega), if_neg c105]; exact hw.set_sn _)) (fun h hw => ?_)
              refine EV.iconst (pc := 118) (v := 1) dX5_band_118 (by decide) ?_
              refine EV.iret (pc := 119) dX5_band_119 trivial ?_
              exact PM.i (by unfold g_band; rw [if_pos c26, if_neg (by rw [nb_F c38]; simp), if_pos (by omega), nI_tn (by omega)]) hw
          · replace c63 := b2i_F c63
            try simp only [Int32.toInt_toInt64, j_l0, j_l1, en, d01] at c63
            refine EV.aload_n (pc := 66) dX5_band_66 rfl ?_
            refine EV.bipush (pc := 67) (v := -12) dX5_band_67 (by decide) ?_
            refine EV.callVPi (pc := 69) (M' := M_X5_met) dX5_band_69 lkX5_88 okV_X5_met (n_met 2 _ hw (by omega) (by decide +kernel)) (by decide) rfl rfl (Nat.le_of_ble_eq_true rfl) (by decide) hw.h34 (fun h hw => ?_)
            refine EV.iret (pc := 72) dX5_band_72 trivial ?_
            exact PM.i (by unfold g_band; rw [if_pos c26, if_neg (by rw [nb_F c38]; simp), if_neg (by omega)]) hw
        · try simp only [Int32.toInt_toInt64, j_l0, j_l1, en, d01] at c38
          refine EV.aload_n (pc := 41) dX5_band_41 rfl ?_
          refine EV.bipush (pc := 42) (v := -11) dX5_band_42 (by decide) ?_
          refine EV.callVPi (pc := 44) (M' := M_X5_met) dX5_band_44 lkX5_88 okV_X5_met (n_met 1 _ hw (by omega) (by decide +kernel)) (by decide) rfl rfl (Nat.le_of_ble_eq_true rfl) (by decide) hw.h34 (fun h hw => ?_)
          refine EV.iret (pc := 47) dX5_band_47 trivial ?_
          exact PM.i (by unfold g_band; rw [if_pos c26, if_pos (nb_T c38)]) hw
      · replace c26 := b2i_F c26
        try simp only [Int32.toInt_toInt64, j_l0, j_l1, en, d01] at c26
        refine EV.bipush (pc := 29) (v := -102) dX5_band_29 (by decide) ?_
        refine EV.iret (pc := 31) dX5_band_31 trivial ?_
        exact PM.i (by unfold g_band; rw [if_neg c26]) hw
    · have e0 : f_band s (nI c) v x d = (-101, s) := by unfold f_band; rw [if_neg (fun q => hpp q.2)]
      rw [e0]
      refine MC.of (by decide +kernel) (Nat.le_of_ble_eq_true rfl) (by dsimp only [linit, Nat.reduceSub, List.reduceReplicate] <;> rfl) ?_
      refine EV.aload_n (pc := 0) dX5_band_0 rfl ?_
      refine EV.iload_n (pc := 1) dX5_band_1 rfl ?_
      refine EV.callVR1 (pc := 2) (M' := M_X5_isComb) dX5_band_2 lkX5_117 okV_X5_isComb (n_isComb _ hw hcn) (by decide) rfl rfl (Nat.le_of_ble_eq_true rfl) (by decide) hw.h34 ?_
      refine EV.if_eq (pc := 5) (tgt := 15) dX5_band_5 (by decide) (fun q => absurd q (fun q => b2i_F q hpc)) (fun _ => ?_)
      refine EV.iload_n (pc := 8) dX5_band_8 rfl ?_
      refine EV.callSR1 (pc := 9) (M' := M_X5_isPlate) dX5_band_9 lkX5_82 okS_X5_isPlate (n_isPlate _) (by decide) rfl rfl (Nat.le_of_ble_eq_true rfl) ?_
      refine EV.if_ne (pc := 12) (tgt := 18) dX5_band_12 (by decide) (fun q => absurd (b2i_0 hpp).symm q) (fun _ => ?_)
      refine EV.bipush (pc := 15) (v := -101) dX5_band_15 (by decide) ?_
      exact EV.iret (pc := 17) dX5_band_17 trivial ⟨rfl, z, hw⟩
  · by_cases hpp : 0 ≤ v.toInt ∧ v.toInt ≤ 5
    · obtain ⟨p, rfl, ep, lp⟩ := i_nat hpp.1
      have hp : p < 6 := by omega
      have hdp := hI.1 p hp
      have e0 : f_band s u (nI p) x d = (-101, s) := by unfold f_band; rw [if_neg (fun q => hpc q.1)]
      rw [e0]
      refine MC.of (by decide +kernel) (Nat.le_of_ble_eq_true rfl) (by dsimp only [linit, Nat.reduceSub, List.reduceReplicate] <;> rfl) ?_
      refine EV.aload_n (pc := 0) dX5_band_0 rfl ?_
      refine EV.iload_n (pc := 1) dX5_band_1 rfl ?_
      refine EV.callVR1 (pc := 2) (M' := M_X5_isComb) dX5_band_2 lkX5_117 okV_X5_isComb (n_isComb _ hw hcn) (by decide) rfl rfl (Nat.le_of_ble_eq_true rfl) (by decide) hw.h34 ?_
      refine EV.if_eq (pc := 5) (tgt := 15) dX5_band_5 (by decide) (fun _ => ?_) (fun q => absurd (b2i_0 hpc).symm q)
      refine EV.bipush (pc := 15) (v := -101) dX5_band_15 (by decide) ?_
      exact EV.iret (pc := 17) dX5_band_17 trivial ⟨rfl, z, hw⟩
    · have e0 : f_band s u v x d = (-101, s) := by unfold f_band; rw [if_neg (fun q => hpc q.1)]
      rw [e0]
      refine MC.of (by decide +kernel) (Nat.le_of_ble_eq_true rfl) (by dsimp only [linit, Nat.reduceSub, List.reduceReplicate] <;> rfl) ?_
      refine EV.aload_n (pc := 0) dX5_band_0 rfl ?_
      refine EV.iload_n (pc := 1) dX5_band_1 rfl ?_
      refine EV.callVR1 (pc := 2) (M' := M_X5_isComb) dX5_band_2 lkX5_117 okV_X5_isComb (n_isComb _ hw hcn) (by decide) rfl rfl (Nat.le_of_ble_eq_true rfl) (by decide) hw.h34 ?_
      refine EV.if_eq (pc := 5) (tgt := 15) dX5_band_5 (by decide) (fun _ => ?_) (fun q => absurd (b2i_0 hpc).symm q)
      refine EV.bipush (pc := 15) (v := -101) dX5_band_15 (by decide) ?_
      exact EV.iret (pc := 17) dX5_band_17 trivial ⟨rfl, z, hw⟩

theorem vR_bad {s : St} {p x y : Nat} (h : s_bad s (y * 20 + x) = true) : vR s p x y = 0 := by unfold vR; rw [if_pos h]
theorem vR_ok {s : St} {p x y : Nat} (h : s_bad s (y * 20 + x) = false) : vR s p x y = lBnd (s_ct s p (y * 20 + x)) := by unfold vR; rw [if_neg (by rw [h]; simp)]

set_option maxHeartbeats 4000000 in
set_option maxRecDepth 100000 in
theorem l_nlight {G : eG} {ad : Nat → Nat} {h : Nat → va_E} {s : St} {z : Zm} {hm : Nat → va_E} (hw : MW G ad s z hm h) (c p x : Nat) (hI : Inv s) (hc : c < 4) (hp : p < 6) (hx : x < s_w s p) : ∀ (n i : Nat) (v9 : Option Value), i + n = rM s c p x → EV G M_X5_lightAt cX5_lightAt none ad 54 (IS (some (.int (iI (midL s c p x)))) h) 15 [some (.ref (ad 34)), some (.int (nI c)), some (.int (nI p)), some (.int (nI x)), some (.long (jI (lgt s p x (rLo s c p x) i))), none, some (.long (jI (mom s p x (rLo s c p x) i))), none, some (.int (nI (rLo s c p x + i))), v9, none] [] h := by
  have hd := hI.1 p hp
  have r1 := rLo_in hI hc hp hx
  have r2 := rHi_in hI hc hp hx
  have r3 := rM_in hI hc hp hx
  intro n
  induction n with
  | zero =>
    intro i v9 hi
    have ei : i = rM s c p x := by omega
    subst ei
    have b1 := lgt_in s p x (rLo s c p x) (rM s c p x)
    have b2 := mom_in s p x (rLo s c p x) (rHi s c p x) r2.2.2 (rM s c p x) r3.2.1
    refine EV.iload (pc := 15) dX5_lightAt_15 rfl ?_
    refine EV.aload_n (pc := 17) dX5_lightAt_17 rfl ?_
    refine EV.iload_n (pc := 18) dX5_lightAt_18 rfl ?_
    refine EV.iload_n (pc := 19) dX5_lightAt_19 rfl ?_
    refine EV.iload_n (pc := 20) dX5_lightAt_20 rfl ?_
    refine EV.callVR1 (pc := 21) (M' := M_X5_lastRow) dX5_lightAt_21 lkX5_130 okV_X5_lastRow (n_last hw c p x hI hc hp hx) (by decide) rfl rfl (Nat.le_of_ble_eq_true rfl) (by decide) hw.h34 ?_
    refine EV.icmp_gt (pc := 24) (tgt := 95) dX5_lightAt_24 (by decide) (fun _ => ?_) (fun q => absurd (by rw [nI_iI, iI_lt (by omega) (by omega) (by omega) (by omega)]; omega) q)
    refine EV.lload (pc := 95) dX5_lightAt_95 rfl ?_
    refine EV.lconst (pc := 97) (v := 0) dX5_lightAt_97 (by decide) ?_
    refine EV.lcmp_ne (pc := 98) (tgt := 106) dX5_lightAt_98 dX5_lightAt_99 (by decide) (fun c98 => ?_) (fun c98 => ?_)
    · refine EV.lload (pc := 106) dX5_lightAt_106 rfl ?_
      refine EV.lload (pc := 108) dX5_lightAt_108 rfl ?_
      refine EV.ldiv (pc := 110) dX5_lightAt_110 c98 ?_
      refine EV.l2i (pc := 111) dX5_lightAt_111 ?_
      refine EV.iret (pc := 112) dX5_lightAt_112 trivial ?_
      refine ⟨congrArg (fun z => some (Value.int z)) ?_, rfl⟩
      rw [show (0 : Int64) = jI 0 from jI_lit 0, jI_eq (by omega) (by omega) (by omega) (by omega)] at c98
      unfold midL
      first | (rw [if_pos (by omega), jI_tdiv (by omega) (by omega) (by omega) (by omega), fl_pos (by omega), jI_i]) | (rw [if_neg (by omega)]; rfl)
    · refine EV.iconst (pc := 102) (v := -1) dX5_lightAt_102 (by decide) ?_
      refine EV.goto (pc := 103) (tgt := 112) dX5_lightAt_103 (by decide) ?_
      refine EV.iret (pc := 112) dX5_lightAt_112 trivial ?_
      refine ⟨congrArg (fun z => some (Value.int z)) ?_, rfl⟩
      rw [show (0 : Int64) = jI 0 from jI_lit 0, jI_eq (by omega) (by omega) (by omega) (by omega)] at c98
      unfold midL
      first | (rw [if_pos (by omega), jI_tdiv (by omega) (by omega) (by omega) (by omega), fl_pos (by omega), jI_i]) | (rw [if_neg (by omega)]; rfl)
  | succ n ih =>
    intro i v9 hi
    have hi2 : i < rM s c p x := by omega
    have hB := lB_in (s_ct s p ((rLo s c p x + i) * 20 + x))
    refine EV.iload (pc := 15) dX5_lightAt_15 rfl ?_
    refine EV.aload_n (pc := 17) dX5_lightAt_17 rfl ?_
    refine EV.iload_n (pc := 18) dX5_lightAt_18 rfl ?_
    refine EV.iload_n (pc := 19) dX5_lightAt_19 rfl ?_
    refine EV.iload_n (pc := 20) dX5_lightAt_20 rfl ?_
    refine EV.callVR1 (pc := 21) (M' := M_X5_lastRow) dX5_lightAt_21 lkX5_130 okV_X5_lastRow (n_last hw c p x hI hc hp hx) (by decide) rfl rfl (Nat.le_of_ble_eq_true rfl) (by decide) hw.h34 ?_
    refine EV.icmp_gt (pc := 24) (tgt := 95) dX5_lightAt_24 (by decide) (fun q => absurd q (by rw [nI_iI, iI_lt (by omega) (by omega) (by omega) (by omega)]; omega)) (fun _ => ?_)
    refine EV.aload_n (pc := 27) dX5_lightAt_27 rfl ?_
    refine EV.aload_n (pc := 28) dX5_lightAt_28 rfl ?_
    refine EV.getf (pc := 29) dX5_lightAt_29 fgX5_23 (by decide) hw.h34 rfl ?_
    refine EV.iload_n (pc := 32) dX5_lightAt_32 rfl ?_
    refine EV.iload_n (pc := 33) dX5_lightAt_33 rfl ?_
    refine EV.iload (pc := 34) dX5_lightAt_34 rfl ?_
    refine EV.callSR1 (pc := 36) (M' := M_X5_place) dX5_lightAt_36 lkX5_96 okS_X5_place (n_place _ _ _) (by decide) rfl rfl (Nat.le_of_ble_eq_true rfl) ?_
    refine EV.topi (y := nI (400 * p + ((rLo s c p x + i) * 20 + x))) (pl4 p x (rLo s c p x + i)) ?_
    refine EV.iald (pc := 39) dX5_lightAt_39 (by decide) hw.h39 (vp_in_nI (show 400 * p + ((rLo s c p x + i) * 20 + x) < 2400 by omega) (by omega)) ?_
    refine EV.topi (y := (s_ct s p ((rLo s c p x + i) * 20 + x))) (by rw [nI_clamp (by omega)]; exact n_rd (f := s_ct s) (by omega)) ?_
    refine EV.callVR1 (pc := 40) (M' := M_X5_bounded) dX5_lightAt_40 lkX5_133 okV_X5_bounded (n_bounded _ _) (by decide) rfl rfl (Nat.le_of_ble_eq_true rfl) (by decide) hw.h34 ?_
    refine EV.lstore (pc := 43) dX5_lightAt_43 (by decide) (by dsimp only [lst2, lno, lk] <;> rfl) ?_
    refine EV.aload_n (pc := 45) dX5_lightAt_45 rfl ?_
    refine EV.getf (pc := 46) dX5_lightAt_46 fgX5_26 (by decide) hw.h34 rfl ?_
    refine EV.bipush (pc := 49) (v := 20) dX5_lightAt_49 (by decide) ?_
    refine EV.iload (pc := 51) dX5_lightAt_51 rfl ?_
    refine EV.imul (pc := 53) dX5_lightAt_53 ?_
    refine EV.iload_n (pc := 54) dX5_lightAt_54 rfl ?_
    refine EV.iadd (pc := 55) dX5_lightAt_55 ?_
    refine EV.topi (y := nI ((rLo s c p x + i) * 20 + x)) (ix2' (rLo s c p x + i) x) ?_
    refine EV.zald (pc := 56) dX5_lightAt_56 (by decide) hw.h40 (vp_in_nI (show (rLo s c p x + i) * 20 + x < 400 by omega) (by omega)) ?_
    refine EV.topi (y := b2i (s_bad s ((rLo s c p x + i) * 20 + x))) (by rw [nI_clamp (by omega)]) ?_
    refine EV.if_ne (pc := 57) (tgt := 89) dX5_lightAt_57 (by decide) (fun c57 => ?_) (fun c57 => ?_)
    · replace c57 := b2i_ne c57
      refine EV.iinc (pc := 89) dX5_lightAt_89 (by decide) rfl (by first | exact nI_inc _ | rfl) (by dsimp only [lst1, lk] <;> rfl) ?_
      refine EV.goto (pc := 92) (tgt := 15) dX5_lightAt_92 (by decide) ?_
      have g1 : lgt s p x (rLo s c p x) (i + 1) = lgt s p x (rLo s c p x) i + vR s p x (rLo s c p x + i) := rfl
      have g2 : mom s p x (rLo s c p x) (i + 1) = mom s p x (rLo s c p x) i + vR s p x (rLo s c p x + i) * (16 * (((rLo s c p x + i) : Nat) : Int)) := rfl
      refine EV.eq rfl ?_ rfl rfl (ih (i + 1) (some (.long (jI (lBnd (s_ct s p ((rLo s c p x + i) * 20 + x)))))) (by omega))
      first
      | (rw [vR_bad c57, Int.add_zero] at g1; rw [vR_bad c57, Int.zero_mul, Int.add_zero] at g2; rw [g1, g2] <;> rfl)
      | (rw [vR_ok c57] at g1 g2; rw [show (0 : Int64) = jI 0 from jI_lit 0, jI_le (by omega) (by omega) (by omega) (by omega)] at c63; first | (rw [show lBnd (s_ct s p ((rLo s c p x + i) * 20 + x)) = 0 by omega, Int.add_zero] at g1; rw [show lBnd (s_ct s p ((rLo s c p x + i) * 20 + x)) = 0 by omega, Int.zero_mul, Int.add_zero] at g2; rw [g1, g2] <;> rfl) | (rw [g1, g2] <;> rfl))
    · replace c57 := b2i_eq c57
      refine EV.lload (pc := 60) dX5_lightAt_60 rfl ?_
      refine EV.lconst (pc := 62) (v := 0) dX5_lightAt_62 (by decide) ?_
      refine EV.lcmp_le (pc := 63) (tgt := 89) dX5_lightAt_63 dX5_lightAt_64 (by decide) (fun c63 => ?_) (fun c63 => ?_)
      · refine EV.iinc (pc := 89) dX5_lightAt_89 (by decide) rfl (by first | exact nI_inc _ | rfl) (by dsimp only [lst1, lk] <;> rfl) ?_
        refine EV.goto (pc := 92) (tgt := 15) dX5_lightAt_92 (by decide) ?_
        have g1 : lgt s p x (rLo s c p x) (i + 1) = lgt s p x (rLo s c p x) i + vR s p x (rLo s c p x + i) := rfl
        have g2 : mom s p x (rLo s c p x) (i + 1) = mom s p x (rLo s c p x) i + vR s p x (rLo s c p x + i) * (16 * (((rLo s c p x + i) : Nat) : Int)) := rfl
        refine EV.eq rfl ?_ rfl rfl (ih (i + 1) (some (.long (jI (lBnd (s_ct s p ((rLo s c p x + i) * 20 + x)))))) (by omega))
        first
        | (rw [vR_bad c57, Int.add_zero] at g1; rw [vR_bad c57, Int.zero_mul, Int.add_zero] at g2; rw [g1, g2] <;> rfl)
        | (rw [vR_ok c57] at g1 g2; rw [show (0 : Int64) = jI 0 from jI_lit 0, jI_le (by omega) (by omega) (by omega) (by omega)] at c63; first | (rw [show lBnd (s_ct s p ((rLo s c p x + i) * 20 + x)) = 0 by omega, Int.add_zero] at g1; rw [show lBnd (s_ct s p ((rLo s c p x + i) * 20 + x)) = 0 by omega, Int.zero_mul, Int.add_zero] at g2; rw [g1, g2] <;> rfl) | (rw [g1, g2] <;> rfl))
      · refine EV.lload (pc := 67) dX5_lightAt_67 rfl ?_
        refine EV.lload (pc := 69) dX5_lightAt_69 rfl ?_
        refine EV.ladd (pc := 71) dX5_lightAt_71 ?_
        refine EV.topl (y := jI (lgt s p x (rLo s c p x) i + lBnd (s_ct s p ((rLo s c p x + i) * 20 + x)))) (jI_add _ _) ?_
        refine EV.lstore (pc := 72) dX5_lightAt_72 (by decide) (by dsimp only [lst2, lno, lk] <;> rfl) ?_
        refine EV.lload (pc := 74) dX5_lightAt_74 rfl ?_
        refine EV.ldc2 (pc := 76) dX5_lightAt_76 kcX5_137 ?_
        refine EV.iload (pc := 79) dX5_lightAt_79 rfl ?_
        refine EV.i2l (pc := 81) dX5_lightAt_81 ?_
        refine EV.lmul (pc := 82) dX5_lightAt_82 ?_
        refine EV.topl (y := jI (16 * (((rLo s c p x + i) : Nat) : Int))) (by rw [show (16 : Int64) = jI 16 from jI_lit 16, nI_iI, iI_l (by omega) (by omega), jI_mul]) ?_
        refine EV.lload (pc := 83) dX5_lightAt_83 rfl ?_
        refine EV.lmul (pc := 85) dX5_lightAt_85 ?_
        refine EV.ladd (pc := 86) dX5_lightAt_86 ?_
        refine EV.topl (y := jI (mom s p x (rLo s c p x) i + lBnd (s_ct s p ((rLo s c p x + i) * 20 + x)) * (16 * (((rLo s c p x + i) : Nat) : Int)))) (by rw [jI_mul, jI_add, Int.mul_comm (16 * _)]) ?_
        refine EV.lstore (pc := 87) dX5_lightAt_87 (by decide) (by dsimp only [lst2, lno, lk] <;> rfl) ?_
        refine EV.iinc (pc := 89) dX5_lightAt_89 (by decide) rfl (by first | exact nI_inc _ | rfl) (by dsimp only [lst1, lk] <;> rfl) ?_
        refine EV.goto (pc := 92) (tgt := 15) dX5_lightAt_92 (by decide) ?_
        have g1 : lgt s p x (rLo s c p x) (i + 1) = lgt s p x (rLo s c p x) i + vR s p x (rLo s c p x + i) := rfl
        have g2 : mom s p x (rLo s c p x) (i + 1) = mom s p x (rLo s c p x) i + vR s p x (rLo s c p x + i) * (16 * (((rLo s c p x + i) : Nat) : Int)) := rfl
        refine EV.eq rfl ?_ rfl rfl (ih (i + 1) (some (.long (jI (lBnd (s_ct s p ((rLo s c p x + i) * 20 + x)))))) (by omega))
        first
        | (rw [vR_bad c57, Int.add_zero] at g1; rw [vR_bad c57, Int.zero_mul, Int.add_zero] at g2; rw [g1, g2] <;> rfl)
        | (rw [vR_ok c57] at g1 g2; rw [show (0 : Int64) = jI 0 from jI_lit 0, jI_le (by omega) (by omega) (by omega) (by omega)] at c63; first | (rw [show lBnd (s_ct s p ((rLo s c p x + i) * 20 + x)) = 0 by omega, Int.add_zero] at g1; rw [show lBnd (s_ct s p ((rLo s c p x + i) * 20 + x)) = 0 by omega, Int.zero_mul, Int.add_zero] at g2; rw [g1, g2] <;> rfl) | (rw [g1, g2] <;> rfl))

set_option maxHeartbeats 4000000 in
set_option maxRecDepth 100000 in
theorem n_light {G : eG} {ad : Nat → Nat} {h : Nat → va_E}  {s : St} {z : Zm} {hm : Nat → va_E} (hw : MW G ad s z hm h) (c p x : Nat) (hI : Inv s) (hc : c < 4) (hp : p < 6) (hx : x < s_w s p) : MC G M_X5_lightAt cX5_lightAt ad 54 [.ref (ad 34), .int (nI c), .int (nI p), .int (nI x)] h (IS (some (.int (iI (midL s c p x)))) h) := by
  refine MC.of (by decide +kernel) (Nat.le_of_ble_eq_true rfl) (by dsimp only [linit, Nat.reduceSub, List.reduceReplicate] <;> rfl) ?_
  have hd := hI.1 p hp
  have r1 := rLo_in hI hc hp hx
  have r2 := rHi_in hI hc hp hx
  have r3 := rM_in hI hc hp hx
  refine EV.lconst (pc := 0) (v := 0) dX5_lightAt_0 (by decide) ?_
  refine EV.lstore (pc := 1) dX5_lightAt_1 (by decide) (by dsimp only [lst2, lno, lk] <;> rfl) ?_
  refine EV.lconst (pc := 3) (v := 0) dX5_lightAt_3 (by decide) ?_
  refine EV.lstore (pc := 4) dX5_lightAt_4 (by decide) (by dsimp only [lst2, lno, lk] <;> rfl) ?_
  refine EV.aload_n (pc := 6) dX5_lightAt_6 rfl ?_
  refine EV.iload_n (pc := 7) dX5_lightAt_7 rfl ?_
  refine EV.iload_n (pc := 8) dX5_lightAt_8 rfl ?_
  refine EV.iload_n (pc := 9) dX5_lightAt_9 rfl ?_
  refine EV.callVR1 (pc := 10) (M' := M_X5_firstRow) dX5_lightAt_10 lkX5_127 okV_X5_firstRow (n_first hw c p x hI hc hp hx) (by decide) rfl rfl (Nat.le_of_ble_eq_true rfl) (by decide) hw.h34 ?_
  refine EV.istore (pc := 13) dX5_lightAt_13 (by decide) (by dsimp only [lst1, lk] <;> rfl) ?_
  exact l_nlight hw c p x hI hc hp hx (rM s c p x) 0 none (by omega)

set_option maxHeartbeats 4000000 in
set_option maxRecDepth 100000 in
theorem q_trace {G : eG} {ad : Nat → Nat} {h : Nat → va_E} {s : St} {z : Zm} {hm : Nat → va_E} (hw : MW G ad s z hm h) (hI : Inv s) (u v : Int32)  : MC G M_X5_trace cX5_trace ad 54 [.ref (ad 34), .int u, .int v] h (PM G ad hm (.int (f_trace s u v).1) (f_trace s u v).2) := by
  have hcn : s_cn s ≤ 4 := hI.2.2.1
  by_cases hpc : 0 ≤ u.toInt ∧ u.toInt < s_cn s
  · obtain ⟨c, rfl, ec, lc⟩ := i_nat hpc.1
    have hc : c < s_cn s := by omega
    have hc4 : c < 4 := by omega
    have hbc := hI.2.2.2.1 c hc4
    by_cases hpp : 0 ≤ v.toInt ∧ v.toInt ≤ 5
    · obtain ⟨p, rfl, ep, lp⟩ := i_nat hpp.1
      have hp : p < 6 := by omega
      have hdp := hI.1 p hp
      have e0 : f_trace s (nI c) (nI p) = g_trace s c p := by unfold f_trace; rw [if_pos ⟨hpc, hpp⟩, nI_tn (by omega), nI_tn (by omega)]
      rw [e0]
      refine MC.of (by decide +kernel) (Nat.le_of_ble_eq_true rfl) (by dsimp only [linit, Nat.reduceSub, List.reduceReplicate] <;> rfl) ?_
      refine EV.aload_n (pc := 0) dX5_trace_0 rfl ?_
      refine EV.iload_n (pc := 1) dX5_trace_1 rfl ?_
      refine EV.callVR1 (pc := 2) (M' := M_X5_isComb) dX5_trace_2 lkX5_117 okV_X5_isComb (n_isComb _ hw hcn) (by decide) rfl rfl (Nat.le_of_ble_eq_true rfl) (by decide) hw.h34 ?_
      refine EV.if_eq (pc := 5) (tgt := 15) dX5_trace_5 (by decide) (fun q => absurd q (fun q => b2i_F q hpc)) (fun _ => ?_)
      refine EV.iload_n (pc := 8) dX5_trace_8 rfl ?_
      refine EV.callSR1 (pc := 9) (M' := M_X5_isPlate) dX5_trace_9 lkX5_82 okS_X5_isPlate (n_isPlate _) (by decide) rfl rfl (Nat.le_of_ble_eq_true rfl) ?_
      refine EV.if_ne (pc := 12) (tgt := 18) dX5_trace_12 (by decide) (fun _ => ?_) (fun q => absurd q (fun q => b2i_F q hpp))
      refine EV.aload_n (pc := 18) dX5_trace_18 rfl ?_
      refine EV.getf (pc := 19) dX5_trace_19 fgX5_7 (by decide) hw.h34 rfl ?_
      refine EV.iload_n (pc := 22) dX5_trace_22 rfl ?_
      refine EV.zald (pc := 23) dX5_trace_23 (by decide) hw.h35 (vp_in_nI (show p < 6 by omega) (by omega)) ?_
      refine EV.topi (y := b2i (!(s_lost s p))) (by rw [nI_clamp (by omega)]) ?_
      refine EV.if_ne (pc := 24) (tgt := 34) dX5_trace_24 (by decide) (fun c24 => ?_) (fun c24 => ?_)
      · try simp only [← Int32.toInt_inj, i_m1, e1, e2] at c24
        have hl := nb_F c24
        have hw1 := (hI.2.2.2.2.2.2.2.2.2.2.2.1 p hp hl).1
        have q1 := midL_in (x := 0) hI hc4 hp (by omega)
        have q2 := midL_in (x := s_w s p - 1) hI hc4 hp (by omega)
        have e1 : (iI (midL s c p 0)).toInt = midL s c p 0 := iI_toInt (by omega) (by omega)
        have e2 : (iI (midL s c p (s_w s p - 1))).toInt = midL s c p (s_w s p - 1) := iI_toInt (by omega) (by omega)
        refine EV.aload_n (pc := 34) dX5_trace_34 rfl ?_
        refine EV.iload_n (pc := 35) dX5_trace_35 rfl ?_
        refine EV.iload_n (pc := 36) dX5_trace_36 rfl ?_
        refine EV.iconst (pc := 37) (v := 0) dX5_trace_37 (by decide) ?_
        refine EV.callVR1 (pc := 38) (M' := M_X5_lightAt) dX5_trace_38 lkX5_139 okV_X5_lightAt (n_light hw c p 0 hI hc4 hp (by omega)) (by decide) rfl rfl (Nat.le_of_ble_eq_true rfl) (by decide) hw.h34 ?_
        refine EV.istore_n (pc := 41) 3 dX5_trace_41 rfl (by decide) (by dsimp only [lst1, lk] <;> rfl) ?_
        refine EV.aload_n (pc := 42) dX5_trace_42 rfl ?_
        refine EV.iload_n (pc := 43) dX5_trace_43 rfl ?_
        refine EV.iload_n (pc := 44) dX5_trace_44 rfl ?_
        refine EV.aload_n (pc := 45) dX5_trace_45 rfl ?_
        refine EV.getf (pc := 46) dX5_trace_46 fgX5_17 (by decide) hw.h34 rfl ?_
        refine EV.iload_n (pc := 49) dX5_trace_49 rfl ?_
        refine EV.iald (pc := 50) dX5_trace_50 (by decide) hw.h37 (vp_in_nI (show p < 6 by omega) (by omega)) ?_
        refine EV.topi (y := nI (s_w s p)) (by rw [nI_clamp (by omega)]) ?_
        refine EV.iconst (pc := 51) (v := 1) dX5_trace_51 (by decide) ?_
        refine EV.isub (pc := 52) dX5_trace_52 ?_
        refine EV.topi (y := nI (s_w s p - 1)) (nI_m1 (by omega)) ?_
        refine EV.callVR1 (pc := 53) (M' := M_X5_lightAt) dX5_trace_53 lkX5_139 okV_X5_lightAt (n_light hw c p (s_w s p - 1) hI hc4 hp (by omega)) (by decide) rfl rfl (Nat.le_of_ble_eq_true rfl) (by decide) hw.h34 ?_
        refine EV.istore (pc := 56) dX5_trace_56 (by decide) (by dsimp only [lst1, lk] <;> rfl) ?_
        refine EV.aload_n (pc := 58) dX5_trace_58 rfl ?_
        refine EV.getf (pc := 59) dX5_trace_59 fgX5_29 (by decide) hw.h34 rfl ?_
        refine EV.iload_n (pc := 62) dX5_trace_62 rfl ?_
        refine EV.iload_n (pc := 63) dX5_trace_63 rfl ?_
        refine EV.iconst (pc := 64) (v := -1) dX5_trace_64 (by decide) ?_
        refine EV.icmp_ne (pc := 65) (tgt := 77) dX5_trace_65 (by decide) (fun c65 => ?_) (fun c65 => ?_)
        · try simp only [← Int32.toInt_inj, i_m1, e1, e2] at c65
          refine EV.iload_n (pc := 77) dX5_trace_77 rfl ?_
          refine EV.iast (pc := 78) dX5_trace_78 (by decide) hw.h41 (vp_in_nI (show c < 4 by omega) (by omega)) ?_
          refine EV.abs (Pr := MW G ad (stA s c (midL s c p 0)) z hm) (by
              first
              | (have q := hw.set_ca c (midL s c p 0).toNat; unfold stA; rw [if_neg (by omega)]; rw [show nI (midL s c p 0).toNat = iI (midL s c p 0) by rw [nI_iI, Int.toNat_of_nonneg (by omega)]] at q; rw [nI_clamp (by omega)]; exact q)
              | (have q := hw.set_ca c (s_ca s c); rw [va_up_id] at q; unfold stA; rw [if_pos (by omega)]; rw [nI_clamp (by omega)]; exact q)) (fun h hw => ?_)
          refine EV.aload_n (pc := 79) dX5_trace_79 rfl ?_
          refine EV.getf (pc := 80) dX5_trace_80 fgX5_32 (by decide) hw.h34 rfl ?_
          refine EV.iload_n (pc := 83) dX5_trace_83 rfl ?_
          refine EV.iload (pc := 84) dX5_trace_84 rfl ?_
          refine EV.iconst (pc := 86) (v := -1) dX5_trace_86 (by decide) ?_
          refine EV.icmp_ne (pc := 87) (tgt := 99) dX5_trace_87 (by decide) (fun c87 => ?_) (fun c87 => ?_)
          · try simp only [← Int32.toInt_inj, i_m1, e1, e2] at c87
            refine EV.iload (pc := 99) dX5_trace_99 rfl ?_
            refine EV.iast (pc := 101) dX5_trace_101 (by decide) hw.h42 (vp_in_nI (show c < 4 by omega) (by omega)) ?_
            refine EV.abs (Pr := MW G ad (stB (stA s c (midL s c p 0)) c (midL s c p (s_w s p - 1))) z hm) (by
              first
              | (have q := hw.set_cb c (midL s c p (s_w s p - 1)).toNat; unfold stB; rw [if_neg (by omega)]; rw [show nI (midL s c p (s_w s p - 1)).toNat = iI (midL s c p (s_w s p - 1)) by rw [nI_iI, Int.toNat_of_nonneg (by omega)]] at q; rw [nI_clamp (by omega)]; exact q)
              | (have q := hw.set_cb c (s_cb (stA s c (midL s c p 0)) c); rw [va_up_id] at q; unfold stB; rw [if_pos (by omega)]; rw [nI_clamp (by omega)]; exact q)) (fun h hw => ?_)
            refine EV.iconst (pc := 102) (v := 1) dX5_trace_102 (by decide) ?_
            refine EV.iret (pc := 103) dX5_trace_103 trivial ?_
            exact PM.i (by unfold g_trace; rw [if_neg (by rw [hl]; simp)]) hw
          · try simp only [← Int32.toInt_inj, i_m1, e1, e2] at c87
            refine EV.aload_n (pc := 90) dX5_trace_90 rfl ?_
            refine EV.getf (pc := 91) dX5_trace_91 fgX5_32 (by decide) hw.h34 rfl ?_
            refine EV.iload_n (pc := 94) dX5_trace_94 rfl ?_
            refine EV.iald (pc := 95) dX5_trace_95 (by decide) hw.h42 (vp_in_nI (show c < 4 by omega) (by omega)) ?_
            refine EV.topi (y := nI (s_cb (stA s c (midL s c p 0)) c)) (by rw [nI_clamp (by omega)]) ?_
            refine EV.goto (pc := 96) (tgt := 101) dX5_trace_96 (by decide) ?_
            refine EV.iast (pc := 101) dX5_trace_101 (by decide) hw.h42 (vp_in_nI (show c < 4 by omega) (by omega)) ?_
            refine EV.abs (Pr := MW G ad (stB (stA s c (midL s c p 0)) c (midL s c p (s_w s p - 1))) z hm) (by
              first
              | (have q := hw.set_cb c (midL s c p (s_w s p - 1)).toNat; unfold stB; rw [if_neg (by omega)]; rw [show nI (midL s c p (s_w s p - 1)).toNat = iI (midL s c p (s_w s p - 1)) by rw [nI_iI, Int.toNat_of_nonneg (by omega)]] at q; rw [nI_clamp (by omega)]; exact q)
              | (have q := hw.set_cb c (s_cb (stA s c (midL s c p 0)) c); rw [va_up_id] at q; unfold stB; rw [if_pos (by omega)]; rw [nI_clamp (by omega)]; exact q)) (fun h hw => ?_)
            refine EV.iconst (pc := 102) (v := 1) dX5_trace_102 (by decide) ?_
            refine EV.iret (pc := 103) dX5_trace_103 trivial ?_
            exact PM.i (by unfold g_trace; rw [if_neg (by rw [hl]; simp)]) hw
        · try simp only [← Int32.toInt_inj, i_m1, e1, e2] at c65
          refine EV.aload_n (pc := 68) dX5_trace_68 rfl ?_
          refine EV.getf (pc := 69) dX5_trace_69 fgX5_29 (by decide) hw.h34 rfl ?_
          refine EV.iload_n (pc := 72) dX5_trace_72 rfl ?_
          refine EV.iald (pc := 73) dX5_trace_73 (by decide) hw.h41 (vp_in_nI (show c < 4 by omega) (by omega)) ?_
          refine EV.topi (y := nI (s_ca s c)) (by rw [nI_clamp (by omega)]) ?_
          refine EV.goto (pc := 74) (tgt := 78) dX5_trace_74 (by decide) ?_
          refine EV.iast (pc := 78) dX5_trace_78 (by decide) hw.h41 (vp_in_nI (show c < 4 by omega) (by omega)) ?_
          refine EV.abs (Pr := MW G ad (stA s c (midL s c p 0)) z hm) (by
              first
              | (have q := hw.set_ca c (midL s c p 0).toNat; unfold stA; rw [if_neg (by omega)]; rw [show nI (midL s c p 0).toNat = iI (midL s c p 0) by rw [nI_iI, Int.toNat_of_nonneg (by omega)]] at q; rw [nI_clamp (by omega)]; exact q)
              | (have q := hw.set_ca c (s_ca s c); rw [va_up_id] at q; unfold stA; rw [if_pos (by omega)]; rw [nI_clamp (by omega)]; exact q)) (fun h hw => ?_)
          refine EV.aload_n (pc := 79) dX5_trace_79 rfl ?_
          refine EV.getf (pc := 80) dX5_trace_80 fgX5_32 (by decide) hw.h34 rfl ?_
          refine EV.iload_n (pc := 83) dX5_trace_83 rfl ?_
          refine EV.iload (pc := 84) dX5_trace_84 rfl ?_
          refine EV.iconst (pc := 86) (v := -1) dX5_trace_86 (by decide) ?_
          refine EV.icmp_ne (pc := 87) (tgt := 99) dX5_trace_87 (by decide) (fun c87 => ?_) (fun c87 => ?_)
          · try simp only [← Int32.toInt_inj, i_m1, e1, e2] at c87
            refine EV.iload (pc := 99) dX5_trace_99 rfl ?_
            refine EV.iast (pc := 101) dX5_trace_101 (by decide) hw.h42 (vp_in_nI (show c < 4 by omega) (by omega)) ?_
            refine EV.abs (Pr := MW G ad (stB (stA s c (midL s c p 0)) c (midL s c p (s_w s p - 1))) z hm) (by
              first
              | (have q := hw.set_cb c (midL s c p (s_w s p - 1)).toNat; unfold stB; rw [if_neg (by omega)]; rw [show nI (midL s c p (s_w s p - 1)).toNat = iI (midL s c p (s_w s p - 1)) by rw [nI_iI, Int.toNat_of_nonneg (by omega)]] at q; rw [nI_clamp (by omega)]; exact q)
              | (have q := hw.set_cb c (s_cb (stA s c (midL s c p 0)) c); rw [va_up_id] at q; unfold stB; rw [if_pos (by omega)]; rw [nI_clamp (by omega)]; exact q)) (fun h hw => ?_)
            refine EV.iconst (pc := 102) (v := 1) dX5_trace_102 (by decide) ?_
            refine EV.iret (pc := 103) dX5_trace_103 trivial ?_
            exact PM.i (by unfold g_trace; rw [if_neg (by rw [hl]; simp)]) hw
          · try simp only [← Int32.toInt_inj, i_m1, e1, e2] at c87
            refine EV.aload_n (pc := 90) dX5_trace_90 rfl ?_
            refine EV.getf (pc := 91) dX5_trace_91 fgX5_32 (by decide) hw.h34 rfl ?_
            refine EV.iload_n (pc := 94) dX5_trace_94 rfl ?_
            refine EV.iald (pc := 95) dX5_trace_95 (by decide) hw.h42 (vp_in_nI (show c < 4 by omega) (by omega)) ?_
            refine EV.topi (y := nI (s_cb (stA s c (midL s c p 0)) c)) (by rw [nI_clamp (by omega)]) ?_
            refine EV.goto (pc := 96) (tgt := 101) dX5_trace_96 (by decide) ?_
            refine EV.iast (pc := 101) dX5_trace_101 (by decide) hw.h42 (vp_in_nI (show c < 4 by omega) (by omega)) ?_
            refine EV.abs (Pr := MW G ad (stB (stA s c (midL s c p 0)) c (midL s c p (s_w s p - 1))) z hm) (by
              first
              | (have q := hw.set_cb c (midL s c p (s_w s p - 1)).toNat; unfold stB; rw [if_neg (by omega)]; rw [show nI (midL s c p (s_w s p - 1)).toNat = iI (midL s c p (s_w s p - 1)) by rw [nI_iI, Int.toNat_of_nonneg (by omega)]] at q; rw [nI_clamp (by omega)]; exact q)
              | (have q := hw.set_cb c (s_cb (stA s c (midL s c p 0)) c); rw [va_up_id] at q; unfold stB; rw [if_pos (by omega)]; rw [nI_clamp (by omega)]; exact q)) (fun h hw => ?_)
            refine EV.iconst (pc := 102) (v := 1) dX5_trace_102 (by decide) ?_
            refine EV.iret (pc := 103) dX5_trace_103 trivial ?_
            exact PM.i (by unfold g_trace; rw [if_neg (by rw [hl]; simp)]) hw
      · try simp only [← Int32.toInt_inj, i_m1, e1, e2] at c24
        refine EV.aload_n (pc := 27) dX5_trace_27 rfl ?_
        refine EV.bipush (pc := 28) (v := -11) dX5_trace_28 (by decide) ?_
        refine EV.callVPi (pc := 30) (M' := M_X5_met) dX5_trace_30 lkX5_88 okV_X5_met (n_met 1 _ hw (by omega) (by decide +kernel)) (by decide) rfl rfl (Nat.le_of_ble_eq_true rfl) (by decide) hw.h34 (fun h hw => ?_)
        refine EV.iret (pc := 33) dX5_trace_33 trivial ?_
        exact PM.i (by unfold g_trace; rw [if_pos (nb_T c24)]) hw
    · have e0 : f_trace s (nI c) v = (-101, s) := by unfold f_trace; rw [if_neg (fun q => hpp q.2)]
      rw [e0]
      refine MC.of (by decide +kernel) (Nat.le_of_ble_eq_true rfl) (by dsimp only [linit, Nat.reduceSub, List.reduceReplicate] <;> rfl) ?_
      refine EV.aload_n (pc := 0) dX5_trace_0 rfl ?_
      refine EV.iload_n (pc := 1) dX5_trace_1 rfl ?_
      refine EV.callVR1 (pc := 2) (M' := M_X5_isComb) dX5_trace_2 lkX5_117 okV_X5_isComb (n_isComb _ hw hcn) (by decide) rfl rfl (Nat.le_of_ble_eq_true rfl) (by decide) hw.h34 ?_
      refine EV.if_eq (pc := 5) (tgt := 15) dX5_trace_5 (by decide) (fun q => absurd q (fun q => b2i_F q hpc)) (fun _ => ?_)
      refine EV.iload_n (pc := 8) dX5_trace_8 rfl ?_
      refine EV.callSR1 (pc := 9) (M' := M_X5_isPlate) dX5_trace_9 lkX5_82 okS_X5_isPlate (n_isPlate _) (by decide) rfl rfl (Nat.le_of_ble_eq_true rfl) ?_
      refine EV.if_ne (pc := 12) (tgt := 18) dX5_trace_12 (by decide) (fun q => absurd (b2i_0 hpp).symm q) (fun _ => ?_)
      refine EV.bipush (pc := 15) (v := -101) dX5_trace_15 (by decide) ?_
      exact EV.iret (pc := 17) dX5_trace_17 trivial ⟨rfl, z, hw⟩
  · by_cases hpp : 0 ≤ v.toInt ∧ v.toInt ≤ 5
    · obtain ⟨p, rfl, ep, lp⟩ := i_nat hpp.1
      have hp : p < 6 := by omega
      have hdp := hI.1 p hp
      have e0 : f_trace s u (nI p) = (-101, s) := by unfold f_trace; rw [if_neg (fun q => hpc q.1)]
      rw [e0]
      refine MC.of (by decide +kernel) (Nat.le_of_ble_eq_true rfl) (by dsimp only [linit, Nat.reduceSub, List.reduceReplicate] <;> rfl) ?_
      refine EV.aload_n (pc := 0) dX5_trace_0 rfl ?_
      refine EV.iload_n (pc := 1) dX5_trace_1 rfl ?_
      refine EV.callVR1 (pc := 2) (M' := M_X5_isComb) dX5_trace_2 lkX5_117 okV_X5_isComb (n_isComb _ hw hcn) (by decide) rfl rfl (Nat.le_of_ble_eq_true rfl) (by decide) hw.h34 ?_
      refine EV.if_eq (pc := 5) (tgt := 15) dX5_trace_5 (by decide) (fun _ => ?_) (fun q => absurd (b2i_0 hpc).symm q)
      refine EV.bipush (pc := 15) (v := -101) dX5_trace_15 (by decide) ?_
      exact EV.iret (pc := 17) dX5_trace_17 trivial ⟨rfl, z, hw⟩
    · have e0 : f_trace s u v = (-101, s) := by unfold f_trace; rw [if_neg (fun q => hpc q.1)]
      rw [e0]
      refine MC.of (by decide +kernel) (Nat.le_of_ble_eq_true rfl) (by dsimp only [linit, Nat.reduceSub, List.reduceReplicate] <;> rfl) ?_
      refine EV.aload_n (pc := 0) dX5_trace_0 rfl ?_
      refine EV.iload_n (pc := 1) dX5_trace_1 rfl ?_
      refine EV.callVR1 (pc := 2) (M' := M_X5_isComb) dX5_trace_2 lkX5_117 okV_X5_isComb (n_isComb _ hw hcn) (by decide) rfl rfl (Nat.le_of_ble_eq_true rfl) (by decide) hw.h34 ?_
      refine EV.if_eq (pc := 5) (tgt := 15) dX5_trace_5 (by decide) (fun _ => ?_) (fun q => absurd (b2i_0 hpc).symm q)
      refine EV.bipush (pc := 15) (v := -101) dX5_trace_15 (by decide) ?_
      exact EV.iret (pc := 17) dX5_trace_17 trivial ⟨rfl, z, hw⟩
