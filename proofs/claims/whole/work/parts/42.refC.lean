theorem j_l3 : (3 : Int64).toInt = 3 := by decide +kernel
theorem j_l19 : (19 : Int64).toInt = 19 := by decide +kernel
theorem j_l304 : (304 : Int64).toInt = 304 := by decide +kernel
theorem j_l2000 : (2000 : Int64).toInt = 2000 := by decide +kernel
theorem j_l10000 : (10000 : Int64).toInt = 10000 := by decide +kernel
theorem j_l100000 : (100000 : Int64).toInt = 100000 := by decide +kernel
theorem j_l1000000 : (1000000 : Int64).toInt = 1000000 := by decide +kernel
theorem j_l60 : (60 : Int64).toInt = 60 := by decide +kernel
theorem j_l100 : (100 : Int64).toInt = 100 := by decide +kernel
theorem j_n1000000 : (-1000000 : Int64).toInt = -1000000 := by decide +kernel
theorem j_n19 : (-19 : Int64).toInt = -19 := by decide +kernel

theorem b_ix {x y : Int32} (hi : 0 ≤ x.toInt ∧ x.toInt ≤ 19 ∧ 0 ≤ y.toInt ∧ y.toInt ≤ 19) : ∃ j : Nat, 20 * y + x = nI j ∧ j < 400 ∧ j = y.toInt.toNat * 20 + x.toInt.toNat := by
  obtain ⟨a, rfl, ea, la⟩ := i_nat hi.1
  obtain ⟨b, rfl, eb, lb⟩ := i_nat hi.2.2.1
  rw [ea, eb] at hi
  refine ⟨b * 20 + a, ?_, by omega, by rw [ea, eb]; rfl⟩
  rw [show (20 : Int32) = nI 20 from rfl, pk_mul, nI_add]
  congr 1
  omega

set_option maxHeartbeats 4000000 in
set_option maxRecDepth 100000 in
theorem q_bad {G : eG} {ad : Nat → Nat} {h : Nat → va_E} {s : St} {z : Zm} {hm : Nat → va_E} (hw : MW G ad s z hm h) (hI : Inv s) (x y : Int32) (b : Bool)  : MC G M_X5_bad cX5_bad ad 54 [.ref (ad 34), .int x, .int y, .int (b2i b)] h (PM G ad hm (.int (f_bad s x y b).1) (f_bad s x y b).2) := by
  refine MC.of (by decide +kernel) (Nat.le_of_ble_eq_true rfl) (by dsimp only [linit, Nat.reduceSub, List.reduceReplicate] <;> rfl) ?_
  refine EV.iload_n (pc := 0) dX5_bad_0 rfl ?_
  refine EV.i2l (pc := 1) dX5_bad_1 ?_
  refine EV.lconst (pc := 2) (v := 0) dX5_bad_2 (by decide) ?_
  refine EV.ldc2 (pc := 3) dX5_bad_3 kcX5_108 ?_
  refine EV.callSR1 (pc := 6) (M' := M_X5_in) dX5_bad_6 lkX5_75 okS_X5_in (n_in _ _ _) (by decide) rfl rfl (Nat.le_of_ble_eq_true rfl) ?_
  refine EV.if_eq (pc := 9) (tgt := 24) dX5_bad_9 (by decide) (fun c9 => ?_) (fun c9 => ?_)
  · replace c9 := b2i_F c9
    try simp only [Int32.lt_iff_toInt_lt, Int32.le_iff_toInt_le, ← Int32.toInt_inj, Int64.lt_iff_toInt_lt, Int64.le_iff_toInt_le, ← Int64.toInt_inj, Int32.toInt_toInt64, i_l0, i_l1, i_l2, i_l5, i_l19, i_m1, j_l0, j_l1, j_l5, i_l3, i_l4, i_l6, i_l7, i_l8, i_l9, i_l12, i_l16, i_l20, i_l60, i_l64, i_l100, i_l200, i_l304, i_l2000, i_l10000, i_l100000, i_l1000000, i_n1000000, i_n19, i_n101, j_l2, j_l3, j_l19, j_l304, j_l2000, j_l10000, j_l100000, j_l1000000, j_l60, j_l100, j_n1000000, j_n19] at c9
    refine EV.bipush (pc := 24) (v := -102) dX5_bad_24 (by decide) ?_
    refine EV.iret (pc := 26) dX5_bad_26 trivial ?_
    exact PM.i (by unfold f_bad; rw [if_neg (by omega)]) hw
  · replace c9 := b2i_T c9
    try simp only [Int32.lt_iff_toInt_lt, Int32.le_iff_toInt_le, ← Int32.toInt_inj, Int64.lt_iff_toInt_lt, Int64.le_iff_toInt_le, ← Int64.toInt_inj, Int32.toInt_toInt64, i_l0, i_l1, i_l2, i_l5, i_l19, i_m1, j_l0, j_l1, j_l5, i_l3, i_l4, i_l6, i_l7, i_l8, i_l9, i_l12, i_l16, i_l20, i_l60, i_l64, i_l100, i_l200, i_l304, i_l2000, i_l10000, i_l100000, i_l1000000, i_n1000000, i_n19, i_n101, j_l2, j_l3, j_l19, j_l304, j_l2000, j_l10000, j_l100000, j_l1000000, j_l60, j_l100, j_n1000000, j_n19] at c9
    refine EV.iload_n (pc := 12) dX5_bad_12 rfl ?_
    refine EV.i2l (pc := 13) dX5_bad_13 ?_
    refine EV.lconst (pc := 14) (v := 0) dX5_bad_14 (by decide) ?_
    refine EV.ldc2 (pc := 15) dX5_bad_15 kcX5_108 ?_
    refine EV.callSR1 (pc := 18) (M' := M_X5_in) dX5_bad_18 lkX5_75 okS_X5_in (n_in _ _ _) (by decide) rfl rfl (Nat.le_of_ble_eq_true rfl) ?_
    refine EV.if_ne (pc := 21) (tgt := 27) dX5_bad_21 (by decide) (fun c21 => ?_) (fun c21 => ?_)
    · replace c21 := b2i_T c21
      try simp only [Int32.lt_iff_toInt_lt, Int32.le_iff_toInt_le, ← Int32.toInt_inj, Int64.lt_iff_toInt_lt, Int64.le_iff_toInt_le, ← Int64.toInt_inj, Int32.toInt_toInt64, i_l0, i_l1, i_l2, i_l5, i_l19, i_m1, j_l0, j_l1, j_l5, i_l3, i_l4, i_l6, i_l7, i_l8, i_l9, i_l12, i_l16, i_l20, i_l60, i_l64, i_l100, i_l200, i_l304, i_l2000, i_l10000, i_l100000, i_l1000000, i_n1000000, i_n19, i_n101, j_l2, j_l3, j_l19, j_l304, j_l2000, j_l10000, j_l100000, j_l1000000, j_l60, j_l100, j_n1000000, j_n19] at c21
      obtain ⟨j, ej, hj, ejj⟩ := b_ix (x := x) (y := y) (by omega)
      refine EV.aload_n (pc := 27) dX5_bad_27 rfl ?_
      refine EV.getf (pc := 28) dX5_bad_28 fgX5_26 (by decide) hw.h34 rfl ?_
      refine EV.bipush (pc := 31) (v := 20) dX5_bad_31 (by decide) ?_
      refine EV.iload_n (pc := 33) dX5_bad_33 rfl ?_
      refine EV.imul (pc := 34) dX5_bad_34 ?_
      refine EV.iload_n (pc := 35) dX5_bad_35 rfl ?_
      refine EV.iadd (pc := 36) dX5_bad_36 ?_
      refine EV.topi (y := nI j) ej ?_
      refine EV.zald (pc := 37) dX5_bad_37 (by decide) hw.h40 (vp_in_nI hj (by omega)) ?_
      refine EV.topi (y := b2i (s_bad s j)) (by rw [nI_clamp (by omega)]) ?_
      refine EV.if_eq (pc := 38) (tgt := 45) dX5_bad_38 (by decide) (fun c38 => ?_) (fun c38 => ?_)
      · replace c38 := b2i_eq c38
        refine EV.iconst (pc := 45) (v := 0) dX5_bad_45 (by decide) ?_
        refine EV.istore (pc := 46) dX5_bad_46 (by decide) (by dsimp only [lst1, lk] <;> rfl) ?_
        refine EV.aload_n (pc := 48) dX5_bad_48 rfl ?_
        refine EV.getf (pc := 49) dX5_bad_49 fgX5_26 (by decide) hw.h34 rfl ?_
        refine EV.bipush (pc := 52) (v := 20) dX5_bad_52 (by decide) ?_
        refine EV.iload_n (pc := 54) dX5_bad_54 rfl ?_
        refine EV.imul (pc := 55) dX5_bad_55 ?_
        refine EV.iload_n (pc := 56) dX5_bad_56 rfl ?_
        refine EV.iadd (pc := 57) dX5_bad_57 ?_
        refine EV.topi (y := nI j) ej ?_
        refine EV.iload_n (pc := 58) dX5_bad_58 rfl ?_
        refine EV.zast (pc := 59) dX5_bad_59 (by decide) hw.h40 (vp_in_nI hj (by omega)) ?_
        refine EV.abs (Pr := MW G ad (S_bad s (va_up (s_bad s) j b)) z hm) (by have q := hw.set_bad j b; rw [b2i_vp, nI_clamp (by omega)]; exact q) (fun h hw => ?_)
        refine EV.iload (pc := 60) dX5_bad_60 rfl ?_
        refine EV.iret (pc := 62) dX5_bad_62 trivial ?_
        exact PM.i (by unfold f_bad; rw [if_pos (by omega), ← ejj, c38]; rfl) hw
      · replace c38 := b2i_ne c38
        refine EV.iconst (pc := 41) (v := 1) dX5_bad_41 (by decide) ?_
        refine EV.goto (pc := 42) (tgt := 46) dX5_bad_42 (by decide) ?_
        refine EV.istore (pc := 46) dX5_bad_46 (by decide) (by dsimp only [lst1, lk] <;> rfl) ?_
        refine EV.aload_n (pc := 48) dX5_bad_48 rfl ?_
        refine EV.getf (pc := 49) dX5_bad_49 fgX5_26 (by decide) hw.h34 rfl ?_
        refine EV.bipush (pc := 52) (v := 20) dX5_bad_52 (by decide) ?_
        refine EV.iload_n (pc := 54) dX5_bad_54 rfl ?_
        refine EV.imul (pc := 55) dX5_bad_55 ?_
        refine EV.iload_n (pc := 56) dX5_bad_56 rfl ?_
        refine EV.iadd (pc := 57) dX5_bad_57 ?_
        refine EV.topi (y := nI j) ej ?_
        refine EV.iload_n (pc := 58) dX5_bad_58 rfl ?_
        refine EV.zast (pc := 59) dX5_bad_59 (by decide) hw.h40 (vp_in_nI hj (by omega)) ?_
        refine EV.abs (Pr := MW G ad (S_bad s (va_up (s_bad s) j b)) z hm) (by have q := hw.set_bad j b; rw [b2i_vp, nI_clamp (by omega)]; exact q) (fun h hw => ?_)
        refine EV.iload (pc := 60) dX5_bad_60 rfl ?_
        refine EV.iret (pc := 62) dX5_bad_62 trivial ?_
        exact PM.i (by unfold f_bad; rw [if_pos (by omega), ← ejj, c38]; rfl) hw
    · replace c21 := b2i_F c21
      try simp only [Int32.lt_iff_toInt_lt, Int32.le_iff_toInt_le, ← Int32.toInt_inj, Int64.lt_iff_toInt_lt, Int64.le_iff_toInt_le, ← Int64.toInt_inj, Int32.toInt_toInt64, i_l0, i_l1, i_l2, i_l5, i_l19, i_m1, j_l0, j_l1, j_l5, i_l3, i_l4, i_l6, i_l7, i_l8, i_l9, i_l12, i_l16, i_l20, i_l60, i_l64, i_l100, i_l200, i_l304, i_l2000, i_l10000, i_l100000, i_l1000000, i_n1000000, i_n19, i_n101, j_l2, j_l3, j_l19, j_l304, j_l2000, j_l10000, j_l100000, j_l1000000, j_l60, j_l100, j_n1000000, j_n19] at c21
      refine EV.bipush (pc := 24) (v := -102) dX5_bad_24 (by decide) ?_
      refine EV.iret (pc := 26) dX5_bad_26 trivial ?_
      exact PM.i (by unfold f_bad; rw [if_neg (by omega)]) hw

set_option maxHeartbeats 4000000 in
set_option maxRecDepth 100000 in
theorem q_joined {G : eG} {ad : Nat → Nat} {h : Nat → va_E} {s : St} {z : Zm} {hm : Nat → va_E} (hw : MW G ad s z hm h) (hI : Inv s) (k : Int32)  : MC G M_X5_joined cX5_joined ad 54 [.ref (ad 34), .int k] h (PM G ad hm (.long (f_joined s k)) s) := by
  have hgc : s_gc s ≤ 60 := hI.2.2.2.2.2.2.2.2.2.1
  have en : (nI (s_gc s) - 1).toInt = (s_gc s : Int) - 1 := by rw [nI_iI, show (1 : Int32) = iI 1 from iI_lit 1, iI_sub, iI_toInt (by omega) (by omega)]
  refine MC.of (by decide +kernel) (Nat.le_of_ble_eq_true rfl) (by dsimp only [linit, Nat.reduceSub, List.reduceReplicate] <;> rfl) ?_
  refine EV.iload_n (pc := 0) dX5_joined_0 rfl ?_
  refine EV.i2l (pc := 1) dX5_joined_1 ?_
  refine EV.lconst (pc := 2) (v := 0) dX5_joined_2 (by decide) ?_
  refine EV.aload_n (pc := 3) dX5_joined_3 rfl ?_
  refine EV.getf (pc := 4) dX5_joined_4 fgX5_215 (by decide) hw.h34 rfl ?_
  refine EV.iconst (pc := 7) (v := 1) dX5_joined_7 (by decide) ?_
  refine EV.isub (pc := 8) dX5_joined_8 ?_
  refine EV.i2l (pc := 9) dX5_joined_9 ?_
  refine EV.callSR1 (pc := 10) (M' := M_X5_in) dX5_joined_10 lkX5_75 okS_X5_in (n_in _ _ _) (by decide) rfl rfl (Nat.le_of_ble_eq_true rfl) ?_
  refine EV.if_eq (pc := 13) (tgt := 25) dX5_joined_13 (by decide) (fun c13 => ?_) (fun c13 => ?_)
  · replace c13 := b2i_F c13
    try simp only [Int32.lt_iff_toInt_lt, Int32.le_iff_toInt_le, ← Int32.toInt_inj, Int64.lt_iff_toInt_lt, Int64.le_iff_toInt_le, ← Int64.toInt_inj, Int32.toInt_toInt64, i_l0, i_l1, i_l2, i_l5, i_l19, i_m1, j_l0, j_l1, j_l5, i_l3, i_l4, i_l6, i_l7, i_l8, i_l9, i_l12, i_l16, i_l20, i_l60, i_l64, i_l100, i_l200, i_l304, i_l2000, i_l10000, i_l100000, i_l1000000, i_n1000000, i_n19, i_n101, j_l2, j_l3, j_l19, j_l304, j_l2000, j_l10000, j_l100000, j_l1000000, j_l60, j_l100, j_n1000000, j_n19, en] at c13
    refine EV.ldc2 (pc := 25) dX5_joined_25 kcX5_160 ?_
    refine EV.lret (pc := 28) dX5_joined_28 trivial ?_
    exact PM.mk (by unfold f_joined; first | (rw [if_pos (by omega)]; rfl) | (rw [if_neg (by omega)])) rfl hw
  · replace c13 := b2i_T c13
    try simp only [Int32.lt_iff_toInt_lt, Int32.le_iff_toInt_le, ← Int32.toInt_inj, Int64.lt_iff_toInt_lt, Int64.le_iff_toInt_le, ← Int64.toInt_inj, Int32.toInt_toInt64, i_l0, i_l1, i_l2, i_l5, i_l19, i_m1, j_l0, j_l1, j_l5, i_l3, i_l4, i_l6, i_l7, i_l8, i_l9, i_l12, i_l16, i_l20, i_l60, i_l64, i_l100, i_l200, i_l304, i_l2000, i_l10000, i_l100000, i_l1000000, i_n1000000, i_n19, i_n101, j_l2, j_l3, j_l19, j_l304, j_l2000, j_l10000, j_l100000, j_l1000000, j_l60, j_l100, j_n1000000, j_n19, en] at c13
    refine EV.aload_n (pc := 16) dX5_joined_16 rfl ?_
    refine EV.getf (pc := 17) dX5_joined_17 fgX5_60 (by decide) hw.h34 rfl ?_
    refine EV.iload_n (pc := 20) dX5_joined_20 rfl ?_
    refine EV.lald (pc := 21) dX5_joined_21 (by decide) hw.h51 (by rw [vp_in_iff]; omega) ?_
    refine EV.goto (pc := 22) (tgt := 28) dX5_joined_22 (by decide) ?_
    refine EV.lret (pc := 28) dX5_joined_28 trivial ?_
    exact PM.mk (by unfold f_joined; first | (rw [if_pos (by omega)]; rfl) | (rw [if_neg (by omega)])) rfl hw

set_option maxHeartbeats 4000000 in
set_option maxRecDepth 100000 in
theorem q_line {G : eG} {ad : Nat → Nat} {h : Nat → va_E} {s : St} {z : Zm} {hm : Nat → va_E} (hw : MW G ad s z hm h) (hI : Inv s) (u : Int32)  : MC G M_X5_line cX5_line ad 54 [.ref (ad 34), .int u] h (PM G ad hm (.int (f_line s u).1) (f_line s u).2) := by
  have hlc : s_lc s ≤ 12 := hI.2.2.2.2.2.2.2.1
  have en := nI_t (show s_lc s < 2147483648 by omega)
  clear hI
  refine MC.of (by decide +kernel) (Nat.le_of_ble_eq_true rfl) (by dsimp only [linit, Nat.reduceSub, List.reduceReplicate] <;> rfl) ?_
  refine EV.iload_n (pc := 0) dX5_line_0 rfl ?_
  refine EV.i2l (pc := 1) dX5_line_1 ?_
  refine EV.lconst (pc := 2) (v := 1) dX5_line_2 (by decide) ?_
  refine EV.ldc2 (pc := 3) dX5_line_3 kcX5_171 ?_
  refine EV.callSR1 (pc := 6) (M' := M_X5_in) dX5_line_6 lkX5_75 okS_X5_in (n_in _ _ _) (by decide) rfl rfl (Nat.le_of_ble_eq_true rfl) ?_
  refine EV.if_eq (pc := 9) (tgt := 34) dX5_line_9 (by decide) (fun c9 => ?_) (fun c9 => ?_)
  · replace c9 := b2i_F c9
    try simp only [Int32.lt_iff_toInt_lt, Int32.le_iff_toInt_le, ← Int32.toInt_inj, Int64.lt_iff_toInt_lt, Int64.le_iff_toInt_le, ← Int64.toInt_inj, Int32.toInt_toInt64, i_l0, i_l1, i_l2, i_l5, i_l19, i_m1, j_l0, j_l1, j_l5, i_l3, i_l4, i_l6, i_l7, i_l8, i_l9, i_l12, i_l16, i_l20, i_l60, i_l64, i_l100, i_l200, i_l304, i_l2000, i_l10000, i_l100000, i_l1000000, i_n1000000, i_n19, i_n101, j_l2, j_l3, j_l19, j_l304, j_l2000, j_l10000, j_l100000, j_l1000000, j_l60, j_l100, j_n1000000, j_n19, en] at c9
    refine EV.bipush (pc := 34) (v := -102) dX5_line_34 (by decide) ?_
    refine EV.iret (pc := 36) dX5_line_36 trivial ?_
    exact PM.i (by unfold f_line; rw [if_neg (by omega)]) hw
  · replace c9 := b2i_T c9
    try simp only [Int32.lt_iff_toInt_lt, Int32.le_iff_toInt_le, ← Int32.toInt_inj, Int64.lt_iff_toInt_lt, Int64.le_iff_toInt_le, ← Int64.toInt_inj, Int32.toInt_toInt64, i_l0, i_l1, i_l2, i_l5, i_l19, i_m1, j_l0, j_l1, j_l5, i_l3, i_l4, i_l6, i_l7, i_l8, i_l9, i_l12, i_l16, i_l20, i_l60, i_l64, i_l100, i_l200, i_l304, i_l2000, i_l10000, i_l100000, i_l1000000, i_n1000000, i_n19, i_n101, j_l2, j_l3, j_l19, j_l304, j_l2000, j_l10000, j_l100000, j_l1000000, j_l60, j_l100, j_n1000000, j_n19, en] at c9
    refine EV.aload_n (pc := 12) dX5_line_12 rfl ?_
    refine EV.getf (pc := 13) dX5_line_13 fgX5_173 (by decide) hw.h34 rfl ?_
    refine EV.if_le (pc := 16) (tgt := 37) dX5_line_16 (by decide) (fun c16 => ?_) (fun c16 => ?_)
    · try simp only [Int32.lt_iff_toInt_lt, Int32.le_iff_toInt_le, ← Int32.toInt_inj, Int64.lt_iff_toInt_lt, Int64.le_iff_toInt_le, ← Int64.toInt_inj, Int32.toInt_toInt64, i_l0, i_l1, i_l2, i_l5, i_l19, i_m1, j_l0, j_l1, j_l5, i_l3, i_l4, i_l6, i_l7, i_l8, i_l9, i_l12, i_l16, i_l20, i_l60, i_l64, i_l100, i_l200, i_l304, i_l2000, i_l10000, i_l100000, i_l1000000, i_n1000000, i_n19, i_n101, j_l2, j_l3, j_l19, j_l304, j_l2000, j_l10000, j_l100000, j_l1000000, j_l60, j_l100, j_n1000000, j_n19, en] at c16
      refine EV.aload_n (pc := 37) dX5_line_37 rfl ?_
      refine EV.getf (pc := 38) dX5_line_38 fgX5_173 (by decide) hw.h34 rfl ?_
      refine EV.bipush (pc := 41) (v := 12) dX5_line_41 (by decide) ?_
      refine EV.icmp_ne (pc := 43) (tgt := 49) dX5_line_43 (by decide) (fun c43 => ?_) (fun c43 => ?_)
      · try simp only [Int32.lt_iff_toInt_lt, Int32.le_iff_toInt_le, ← Int32.toInt_inj, Int64.lt_iff_toInt_lt, Int64.le_iff_toInt_le, ← Int64.toInt_inj, Int32.toInt_toInt64, i_l0, i_l1, i_l2, i_l5, i_l19, i_m1, j_l0, j_l1, j_l5, i_l3, i_l4, i_l6, i_l7, i_l8, i_l9, i_l12, i_l16, i_l20, i_l60, i_l64, i_l100, i_l200, i_l304, i_l2000, i_l10000, i_l100000, i_l1000000, i_n1000000, i_n19, i_n101, j_l2, j_l3, j_l19, j_l304, j_l2000, j_l10000, j_l100000, j_l1000000, j_l60, j_l100, j_n1000000, j_n19, en] at c43
        refine EV.aload_n (pc := 49) dX5_line_49 rfl ?_
        refine EV.getf (pc := 50) dX5_line_50 fgX5_57 (by decide) hw.h34 rfl ?_
        refine EV.aload_n (pc := 53) dX5_line_53 rfl ?_
        refine EV.getf (pc := 54) dX5_line_54 fgX5_173 (by decide) hw.h34 rfl ?_
        refine EV.iload_n (pc := 57) dX5_line_57 rfl ?_
        refine EV.iast (pc := 58) dX5_line_58 (by decide) hw.h50 (vp_in_nI (show s_lc s < 12 by omega) (by omega)) ?_
        refine EV.abs (Pr := MW G ad (S_ln s (upd (s_ln s) (s_lc s) u)) z hm) (by have q := hw.set_ln (s_lc s) u; rw [nI_clamp (by omega)]; exact q) (fun h hw => ?_)
        refine EV.aload_n (pc := 59) dX5_line_59 rfl ?_
        refine EV.dup (pc := 60) dX5_line_60 rfl ?_
        refine EV.getf (pc := 61) dX5_line_61 fgX5_173 (by decide) hw.h34 rfl ?_
        refine EV.iconst (pc := 64) (v := 1) dX5_line_64 (by decide) ?_
        refine EV.iadd (pc := 65) dX5_line_65 ?_
        refine EV.topi (y := nI (s_lc s + 1)) (nI_p1 _) ?_
        refine EV.putf (pc := 66) dX5_line_66 fpX5_173 (by decide) hw.h34 rfl rfl (Nat.le_of_ble_eq_true rfl) ?_
        refine EV.abs (Pr := MW G ad (S_lc (S_ln s (upd (s_ln s) (s_lc s) u)) (s_lc s + 1)) z hm) (hw.set_lc (s_lc s + 1)) (fun h hw => ?_)
        refine EV.aload_n (pc := 69) dX5_line_69 rfl ?_
        refine EV.getf (pc := 70) dX5_line_70 fgX5_173 (by decide) hw.h34 rfl ?_
        refine EV.iret (pc := 73) dX5_line_73 trivial ?_
        exact PM.i (by unfold f_line; rw [if_pos (by omega), if_pos (by omega)]) hw
      · try simp only [Int32.lt_iff_toInt_lt, Int32.le_iff_toInt_le, ← Int32.toInt_inj, Int64.lt_iff_toInt_lt, Int64.le_iff_toInt_le, ← Int64.toInt_inj, Int32.toInt_toInt64, i_l0, i_l1, i_l2, i_l5, i_l19, i_m1, j_l0, j_l1, j_l5, i_l3, i_l4, i_l6, i_l7, i_l8, i_l9, i_l12, i_l16, i_l20, i_l60, i_l64, i_l100, i_l200, i_l304, i_l2000, i_l10000, i_l100000, i_l1000000, i_n1000000, i_n19, i_n101, j_l2, j_l3, j_l19, j_l304, j_l2000, j_l10000, j_l100000, j_l1000000, j_l60, j_l100, j_n1000000, j_n19, en] at c43
        refine EV.bipush (pc := 46) (v := -104) dX5_line_46 (by decide) ?_
        refine EV.iret (pc := 48) dX5_line_48 trivial ?_
        exact PM.i (by unfold f_line; rw [if_pos (by omega), if_neg (by omega)]) hw
    · try simp only [Int32.lt_iff_toInt_lt, Int32.le_iff_toInt_le, ← Int32.toInt_inj, Int64.lt_iff_toInt_lt, Int64.le_iff_toInt_le, ← Int64.toInt_inj, Int32.toInt_toInt64, i_l0, i_l1, i_l2, i_l5, i_l19, i_m1, j_l0, j_l1, j_l5, i_l3, i_l4, i_l6, i_l7, i_l8, i_l9, i_l12, i_l16, i_l20, i_l60, i_l64, i_l100, i_l200, i_l304, i_l2000, i_l10000, i_l100000, i_l1000000, i_n1000000, i_n19, i_n101, j_l2, j_l3, j_l19, j_l304, j_l2000, j_l10000, j_l100000, j_l1000000, j_l60, j_l100, j_n1000000, j_n19, en] at c16
      refine EV.iload_n (pc := 19) dX5_line_19 rfl ?_
      refine EV.aload_n (pc := 20) dX5_line_20 rfl ?_
      refine EV.getf (pc := 21) dX5_line_21 fgX5_57 (by decide) hw.h34 rfl ?_
      refine EV.aload_n (pc := 24) dX5_line_24 rfl ?_
      refine EV.getf (pc := 25) dX5_line_25 fgX5_173 (by decide) hw.h34 rfl ?_
      refine EV.iconst (pc := 28) (v := 1) dX5_line_28 (by decide) ?_
      refine EV.isub (pc := 29) dX5_line_29 ?_
      refine EV.topi (y := nI (s_lc s - 1)) (nI_m1 (show 1 ≤ s_lc s by omega)) ?_
      refine EV.iald (pc := 30) dX5_line_30 (by decide) hw.h50 (vp_in_nI (show s_lc s - 1 < 12 by omega) (by omega)) ?_
      refine EV.topi (y := s_ln s (s_lc s - 1)) (by rw [nI_clamp (by omega)]) ?_
      refine EV.icmp_gt (pc := 31) (tgt := 37) dX5_line_31 (by decide) (fun c31 => ?_) (fun c31 => ?_)
      · try simp only [Int32.lt_iff_toInt_lt, Int32.le_iff_toInt_le, ← Int32.toInt_inj, Int64.lt_iff_toInt_lt, Int64.le_iff_toInt_le, ← Int64.toInt_inj, Int32.toInt_toInt64, i_l0, i_l1, i_l2, i_l5, i_l19, i_m1, j_l0, j_l1, j_l5, i_l3, i_l4, i_l6, i_l7, i_l8, i_l9, i_l12, i_l16, i_l20, i_l60, i_l64, i_l100, i_l200, i_l304, i_l2000, i_l10000, i_l100000, i_l1000000, i_n1000000, i_n19, i_n101, j_l2, j_l3, j_l19, j_l304, j_l2000, j_l10000, j_l100000, j_l1000000, j_l60, j_l100, j_n1000000, j_n19, en] at c31
        refine EV.aload_n (pc := 37) dX5_line_37 rfl ?_
        refine EV.getf (pc := 38) dX5_line_38 fgX5_173 (by decide) hw.h34 rfl ?_
        refine EV.bipush (pc := 41) (v := 12) dX5_line_41 (by decide) ?_
        refine EV.icmp_ne (pc := 43) (tgt := 49) dX5_line_43 (by decide) (fun c43 => ?_) (fun c43 => ?_)
        · try simp only [Int32.lt_iff_toInt_lt, Int32.le_iff_toInt_le, ← Int32.toInt_inj, Int64.lt_iff_toInt_lt, Int64.le_iff_toInt_le, ← Int64.toInt_inj, Int32.toInt_toInt64, i_l0, i_l1, i_l2, i_l5, i_l19, i_m1, j_l0, j_l1, j_l5, i_l3, i_l4, i_l6, i_l7, i_l8, i_l9, i_l12, i_l16, i_l20, i_l60, i_l64, i_l100, i_l200, i_l304, i_l2000, i_l10000, i_l100000, i_l1000000, i_n1000000, i_n19, i_n101, j_l2, j_l3, j_l19, j_l304, j_l2000, j_l10000, j_l100000, j_l1000000, j_l60, j_l100, j_n1000000, j_n19, en] at c43
          refine EV.aload_n (pc := 49) dX5_line_49 rfl ?_
          refine EV.getf (pc := 50) dX5_line_50 fgX5_57 (by decide) hw.h34 rfl ?_
          refine EV.aload_n (pc := 53) dX5_line_53 rfl ?_
          refine EV.getf (pc := 54) dX5_line_54 fgX5_173 (by decide) hw.h34 rfl ?_
          refine EV.iload_n (pc := 57) dX5_line_57 rfl ?_
          refine EV.iast (pc := 58) dX5_line_58 (by decide) hw.h50 (vp_in_nI (show s_lc s < 12 by omega) (by omega)) ?_
          refine EV.abs (Pr := MW G ad (S_ln s (upd (s_ln s) (s_lc s) u)) z hm) (by have q := hw.set_ln (s_lc s) u; rw [nI_clamp (by omega)]; exact q) (fun h hw => ?_)
          refine EV.aload_n (pc := 59) dX5_line_59 rfl ?_
          refine EV.dup (pc := 60) dX5_line_60 rfl ?_
          refine EV.getf (pc := 61) dX5_line_61 fgX5_173 (by decide) hw.h34 rfl ?_
          refine EV.iconst (pc := 64) (v := 1) dX5_line_64 (by decide) ?_
          refine EV.iadd (pc := 65) dX5_line_65 ?_
          refine EV.topi (y := nI (s_lc s + 1)) (nI_p1 _) ?_
          refine EV.putf (pc := 66) dX5_line_66 fpX5_173 (by decide) hw.h34 rfl rfl (Nat.le_of_ble_eq_true rfl) ?_
          refine EV.abs (Pr := MW G ad (S_lc (S_ln s (upd (s_ln s) (s_lc s) u)) (s_lc s + 1)) z hm) (hw.set_lc (s_lc s + 1)) (fun h hw => ?_)
          refine EV.aload_n (pc := 69) dX5_line_69 rfl ?_
          refine EV.getf (pc := 70) dX5_line_70 fgX5_173 (by decide) hw.h34 rfl ?_
          refine EV.iret (pc := 73) dX5_line_73 trivial ?_
          exact PM.i (by unfold f_line; rw [if_pos (by omega), if_pos (by omega)]) hw
        · try simp only [Int32.lt_iff_toInt_lt, Int32.le_iff_toInt_le, ← Int32.toInt_inj, Int64.lt_iff_toInt_lt, Int64.le_iff_toInt_le, ← Int64.toInt_inj, Int32.toInt_toInt64, i_l0, i_l1, i_l2, i_l5, i_l19, i_m1, j_l0, j_l1, j_l5, i_l3, i_l4, i_l6, i_l7, i_l8, i_l9, i_l12, i_l16, i_l20, i_l60, i_l64, i_l100, i_l200, i_l304, i_l2000, i_l10000, i_l100000, i_l1000000, i_n1000000, i_n19, i_n101, j_l2, j_l3, j_l19, j_l304, j_l2000, j_l10000, j_l100000, j_l1000000, j_l60, j_l100, j_n1000000, j_n19, en] at c43
          refine EV.bipush (pc := 46) (v := -104) dX5_line_46 (by decide) ?_
          refine EV.iret (pc := 48) dX5_line_48 trivial ?_
          exact PM.i (by unfold f_line; rw [if_pos (by omega), if_neg (by omega)]) hw
      · try simp only [Int32.lt_iff_toInt_lt, Int32.le_iff_toInt_le, ← Int32.toInt_inj, Int64.lt_iff_toInt_lt, Int64.le_iff_toInt_le, ← Int64.toInt_inj, Int32.toInt_toInt64, i_l0, i_l1, i_l2, i_l5, i_l19, i_m1, j_l0, j_l1, j_l5, i_l3, i_l4, i_l6, i_l7, i_l8, i_l9, i_l12, i_l16, i_l20, i_l60, i_l64, i_l100, i_l200, i_l304, i_l2000, i_l10000, i_l100000, i_l1000000, i_n1000000, i_n19, i_n101, j_l2, j_l3, j_l19, j_l304, j_l2000, j_l10000, j_l100000, j_l1000000, j_l60, j_l100, j_n1000000, j_n19, en] at c31
        refine EV.bipush (pc := 34) (v := -102) dX5_line_34 (by decide) ?_
        refine EV.iret (pc := 36) dX5_line_36 trivial ?_
        exact PM.i (by unfold f_line; rw [if_neg (by omega)]) hw
