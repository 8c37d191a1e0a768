set_option maxHeartbeats 4000000 in
set_option maxRecDepth 100000 in
theorem n_met {G : eG} {ad : Nat → Nat} {h : Nat → va_E} (k : Nat) (a : Int32) {s : St} {z : Zm} {hm : Nat → va_E} (hw : MW G ad s z hm h) (hk : k ≤ 5) (ha : -10 - a = nI k) : MC G M_X5_met cX5_met ad 54 [.ref (ad 34), .int a] h (fun v h' => v = some (.int a) ∧ MW G ad (f_caus s k) z hm h') := by
  refine MC.of (by decide +kernel) (Nat.le_of_ble_eq_true rfl) (by dsimp only [linit, Nat.reduceSub, List.reduceReplicate] <;> rfl) ?_
  refine EV.aload_n (pc := 0) dX5_met_0 rfl ?_
  refine EV.bipush (pc := 1) (v := -10) dX5_met_1 (by decide) ?_
  refine EV.iload_n (pc := 3) dX5_met_3 rfl ?_
  refine EV.isub (pc := 4) dX5_met_4 ?_
  refine EV.topi (y := nI k) ha ?_
  refine EV.putf (pc := 5) dX5_met_5 fpX5_69 (by decide) hw.h34 rfl rfl (Nat.le_of_ble_eq_true rfl) ?_
  refine EV.abs (Pr := MW G ad (S_cs s (nI k)) z hm) (hw.set_cs (nI k)) (fun h hw => ?_)
  refine EV.aload_n (pc := 8) dX5_met_8 rfl ?_
  refine EV.getf (pc := 9) dX5_met_9 fgX5_63 (by decide) hw.h34 rfl ?_
  refine EV.aload_n (pc := 12) dX5_met_12 rfl ?_
  refine EV.getf (pc := 13) dX5_met_13 fgX5_69 (by decide) hw.h34 rfl ?_
  refine EV.dup2i (pc := 16) dX5_met_16 rfl rfl ?_
  refine EV.iald (pc := 17) dX5_met_17 (by decide) hw.h52 (vp_in_nI (show k < 6 by omega) (by omega)) ?_
  refine EV.iconst (pc := 18) (v := 1) dX5_met_18 (by decide) ?_
  refine EV.iadd (pc := 19) dX5_met_19 ?_
  refine EV.iast (pc := 20) dX5_met_20 (by decide) hw.h52 (vp_in_nI (show k < 6 by omega) (by omega)) ?_
  refine EV.abs (Pr := MW G ad (f_caus s k) z hm) (by have q := hw.set_cc k (s_cc s k + 1); rw [nI_clamp (by omega)]; exact q) (fun h hw => ?_)
  refine EV.iload_n (pc := 21) dX5_met_21 rfl ?_
  exact EV.iret (pc := 22) dX5_met_22 trivial ⟨rfl, hw⟩

set_option maxHeartbeats 4000000 in
set_option maxRecDepth 100000 in
theorem n_isComb {G : eG} {ad : Nat → Nat} {h : Nat → va_E} (v : Int32) {s : St} {z : Zm} {hm : Nat → va_E} (hw : MW G ad s z hm h) (hcn : s_cn s ≤ 4) : MC G M_X5_isComb cX5_isComb ad 54 [.ref (ad 34), .int v] h (IS (some (.int (b2i (decide (0 ≤ v.toInt ∧ v.toInt < s_cn s))))) h) := by
  refine MC.of (by decide +kernel) (Nat.le_of_ble_eq_true rfl) (by dsimp only [linit, Nat.reduceSub, List.reduceReplicate] <;> rfl) ?_
  refine EV.iload_n (pc := 0) dX5_isComb_0 rfl ?_
  refine EV.i2l (pc := 1) dX5_isComb_1 ?_
  refine EV.lconst (pc := 2) (v := 0) dX5_isComb_2 (by decide) ?_
  refine EV.aload_n (pc := 3) dX5_isComb_3 rfl ?_
  refine EV.getf (pc := 4) dX5_isComb_4 fgX5_79 (by decide) hw.h34 rfl ?_
  refine EV.iconst (pc := 7) (v := 1) dX5_isComb_7 (by decide) ?_
  refine EV.isub (pc := 8) dX5_isComb_8 ?_
  refine EV.i2l (pc := 9) dX5_isComb_9 ?_
  refine EV.callSR1 (pc := 10) (M' := M_X5_in) dX5_isComb_10 lkX5_75 okS_X5_in (n_in _ _ _) (by decide) rfl rfl (Nat.le_of_ble_eq_true rfl) ?_
  refine EV.iret (pc := 13) dX5_isComb_13 (b2i_nar _) ?_
  refine ⟨congrArg (fun z => some (Value.int z)) ?_, rfl⟩
  have e1 : (nI (s_cn s) - 1).toInt = (s_cn s : Int) - 1 := by rw [nI_iI, show (1 : Int32) = iI 1 from iI_lit 1, iI_sub, iI_toInt (by omega) (by omega)]
  rw [Int32.toInt_toInt64, Int32.toInt_toInt64, j_l0, e1]
  congr 1
  exact decide_eq_decide.mpr (by omega)

set_option maxHeartbeats 4000000 in
set_option maxRecDepth 100000 in
theorem n_isPlace {G : eG} {ad : Nat → Nat} {h : Nat → va_E} (k : Nat) (x y : Int32) {s : St} {z : Zm} {hm : Nat → va_E} (hw : MW G ad s z hm h) (hk : k < 6) (h20 : s_w s k ≤ 20 ∧ s_h s k ≤ 20) : MC G M_X5_isPlace cX5_isPlace ad 54 [.ref (ad 34), .int (nI k), .int x, .int y] h (IS (some (.int (b2i (decide (0 ≤ x.toInt ∧ x.toInt < s_w s k ∧ 0 ≤ y.toInt ∧ y.toInt < s_h s k))))) h) := by
  refine MC.of (by decide +kernel) (Nat.le_of_ble_eq_true rfl) (by dsimp only [linit, Nat.reduceSub, List.reduceReplicate] <;> rfl) ?_
  have e1 : (nI (s_w s k) - 1).toInt = (s_w s k : Int) - 1 := by rw [nI_iI, show (1 : Int32) = iI 1 from iI_lit 1, iI_sub, iI_toInt (by omega) (by omega)]
  have e2 : (nI (s_h s k) - 1).toInt = (s_h s k : Int) - 1 := by rw [nI_iI, show (1 : Int32) = iI 1 from iI_lit 1, iI_sub, iI_toInt (by omega) (by omega)]
  refine EV.iload_n (pc := 0) dX5_isPlace_0 rfl ?_
  refine EV.i2l (pc := 1) dX5_isPlace_1 ?_
  refine EV.lconst (pc := 2) (v := 0) dX5_isPlace_2 (by decide) ?_
  refine EV.aload_n (pc := 3) dX5_isPlace_3 rfl ?_
  refine EV.getf (pc := 4) dX5_isPlace_4 fgX5_17 (by decide) hw.h34 rfl ?_
  refine EV.iload_n (pc := 7) dX5_isPlace_7 rfl ?_
  refine EV.iald (pc := 8) dX5_isPlace_8 (by decide) hw.h37 (vp_in_nI hk (by omega)) ?_
  refine EV.topi (y := nI (s_w s k)) (by rw [nI_clamp (by omega)]) ?_
  refine EV.iconst (pc := 9) (v := 1) dX5_isPlace_9 (by decide) ?_
  refine EV.isub (pc := 10) dX5_isPlace_10 ?_
  refine EV.i2l (pc := 11) dX5_isPlace_11 ?_
  refine EV.callSR1 (pc := 12) (M' := M_X5_in) dX5_isPlace_12 lkX5_75 okS_X5_in (n_in _ _ _) (by decide) rfl rfl (Nat.le_of_ble_eq_true rfl) ?_
  refine EV.if_eq (pc := 15) (tgt := 40) dX5_isPlace_15 (by decide) (fun c15 => ?_) (fun c15 => ?_)
  · replace c15 := b2i_F c15
    try simp only [Int32.lt_iff_toInt_lt, Int32.le_iff_toInt_le, ← Int32.toInt_inj, Int64.lt_iff_toInt_lt, Int64.le_iff_toInt_le, ← Int64.toInt_inj, Int32.toInt_toInt64, i_l0, i_l1, i_l2, i_l5, i_l19, i_m1, j_l0, j_l1, j_l5, i_l3, i_l4, i_l6, i_l7, i_l8, i_l9, i_l12, i_l16, i_l20, i_l60, i_l64, i_l100, i_l200, i_l304, i_l2000, i_l10000, i_l100000, i_l1000000, i_n1000000, i_n19, i_n101, e1, e2] at c15
    refine EV.iconst (pc := 40) (v := 0) dX5_isPlace_40 (by decide) ?_
    refine EV.iret (pc := 41) dX5_isPlace_41 (by rfl) ?_
    exact ⟨congrArg (fun z => some (Value.int z)) (by first | exact b2i_1 (by omega) | exact b2i_0 (by omega)), rfl⟩
  · replace c15 := b2i_T c15
    try simp only [Int32.lt_iff_toInt_lt, Int32.le_iff_toInt_le, ← Int32.toInt_inj, Int64.lt_iff_toInt_lt, Int64.le_iff_toInt_le, ← Int64.toInt_inj, Int32.toInt_toInt64, i_l0, i_l1, i_l2, i_l5, i_l19, i_m1, j_l0, j_l1, j_l5, i_l3, i_l4, i_l6, i_l7, i_l8, i_l9, i_l12, i_l16, i_l20, i_l60, i_l64, i_l100, i_l200, i_l304, i_l2000, i_l10000, i_l100000, i_l1000000, i_n1000000, i_n19, i_n101, e1, e2] at c15
    refine EV.iload_n (pc := 18) dX5_isPlace_18 rfl ?_
    refine EV.i2l (pc := 19) dX5_isPlace_19 ?_
    refine EV.lconst (pc := 20) (v := 0) dX5_isPlace_20 (by decide) ?_
    refine EV.aload_n (pc := 21) dX5_isPlace_21 rfl ?_
    refine EV.getf (pc := 22) dX5_isPlace_22 fgX5_20 (by decide) hw.h34 rfl ?_
    refine EV.iload_n (pc := 25) dX5_isPlace_25 rfl ?_
    refine EV.iald (pc := 26) dX5_isPlace_26 (by decide) hw.h38 (vp_in_nI hk (by omega)) ?_
    refine EV.topi (y := nI (s_h s k)) (by rw [nI_clamp (by omega)]) ?_
    refine EV.iconst (pc := 27) (v := 1) dX5_isPlace_27 (by decide) ?_
    refine EV.isub (pc := 28) dX5_isPlace_28 ?_
    refine EV.i2l (pc := 29) dX5_isPlace_29 ?_
    refine EV.callSR1 (pc := 30) (M' := M_X5_in) dX5_isPlace_30 lkX5_75 okS_X5_in (n_in _ _ _) (by decide) rfl rfl (Nat.le_of_ble_eq_true rfl) ?_
    refine EV.if_eq (pc := 33) (tgt := 40) dX5_isPlace_33 (by decide) (fun c33 => ?_) (fun c33 => ?_)
    · replace c33 := b2i_F c33
      try simp only [Int32.lt_iff_toInt_lt, Int32.le_iff_toInt_le, ← Int32.toInt_inj, Int64.lt_iff_toInt_lt, Int64.le_iff_toInt_le, ← Int64.toInt_inj, Int32.toInt_toInt64, i_l0, i_l1, i_l2, i_l5, i_l19, i_m1, j_l0, j_l1, j_l5, i_l3, i_l4, i_l6, i_l7, i_l8, i_l9, i_l12, i_l16, i_l20, i_l60, i_l64, i_l100, i_l200, i_l304, i_l2000, i_l10000, i_l100000, i_l1000000, i_n1000000, i_n19, i_n101, e1, e2] at c33
      refine EV.iconst (pc := 40) (v := 0) dX5_isPlace_40 (by decide) ?_
      refine EV.iret (pc := 41) dX5_isPlace_41 (by rfl) ?_
      exact ⟨congrArg (fun z => some (Value.int z)) (by first | exact b2i_1 (by omega) | exact b2i_0 (by omega)), rfl⟩
    · replace c33 := b2i_T c33
      try simp only [Int32.lt_iff_toInt_lt, Int32.le_iff_toInt_le, ← Int32.toInt_inj, Int64.lt_iff_toInt_lt, Int64.le_iff_toInt_le, ← Int64.toInt_inj, Int32.toInt_toInt64, i_l0, i_l1, i_l2, i_l5, i_l19, i_m1, j_l0, j_l1, j_l5, i_l3, i_l4, i_l6, i_l7, i_l8, i_l9, i_l12, i_l16, i_l20, i_l60, i_l64, i_l100, i_l200, i_l304, i_l2000, i_l10000, i_l100000, i_l1000000, i_n1000000, i_n19, i_n101, e1, e2] at c33
      refine EV.iconst (pc := 36) (v := 1) dX5_isPlace_36 (by decide) ?_
      refine EV.goto (pc := 37) (tgt := 41) dX5_isPlace_37 (by decide) ?_
      refine EV.iret (pc := 41) dX5_isPlace_41 (by rfl) ?_
      exact ⟨congrArg (fun z => some (Value.int z)) (by first | exact b2i_1 (by omega) | exact b2i_0 (by omega)), rfl⟩

set_option maxHeartbeats 4000000 in
set_option maxRecDepth 100000 in
theorem n_isLike {G : eG} {ad : Nat → Nat} {h : Nat → va_E} (k j : Nat) {s : St} {z : Zm} {hm : Nat → va_E} (hw : MW G ad s z hm h) (hk : k < 6) (hj : j < 6) (h20 : s_w s k ≤ 20 ∧ s_h s k ≤ 20) (h21 : s_w s j ≤ 20 ∧ s_h s j ≤ 20) : MC G M_X5_isLike cX5_isLike ad 54 [.ref (ad 34), .int (nI k), .int (nI j)] h (IS (some (.int (b2i (decide (s_w s k = s_w s j ∧ s_h s k = s_h s j))))) h) := by
  refine MC.of (by decide +kernel) (Nat.le_of_ble_eq_true rfl) (by dsimp only [linit, Nat.reduceSub, List.reduceReplicate] <;> rfl) ?_
  have e1 := nI_t (show s_w s k < 2147483648 by omega)
  have e2 := nI_t (show s_w s j < 2147483648 by omega)
  have e3 := nI_t (show s_h s k < 2147483648 by omega)
  have e4 := nI_t (show s_h s j < 2147483648 by omega)
  refine EV.aload_n (pc := 0) dX5_isLike_0 rfl ?_
  refine EV.getf (pc := 1) dX5_isLike_1 fgX5_17 (by decide) hw.h34 rfl ?_
  refine EV.iload_n (pc := 4) dX5_isLike_4 rfl ?_
  refine EV.iald (pc := 5) dX5_isLike_5 (by decide) hw.h37 (vp_in_nI hk (by omega)) ?_
  refine EV.topi (y := nI (s_w s k)) (by rw [nI_clamp (by omega)]) ?_
  refine EV.aload_n (pc := 6) dX5_isLike_6 rfl ?_
  refine EV.getf (pc := 7) dX5_isLike_7 fgX5_17 (by decide) hw.h34 rfl ?_
  refine EV.iload_n (pc := 10) dX5_isLike_10 rfl ?_
  refine EV.iald (pc := 11) dX5_isLike_11 (by decide) hw.h37 (vp_in_nI hj (by omega)) ?_
  refine EV.topi (y := nI (s_w s j)) (by rw [nI_clamp (by omega)]) ?_
  refine EV.icmp_ne (pc := 12) (tgt := 34) dX5_isLike_12 (by decide) (fun c12 => ?_) (fun c12 => ?_)
  · try simp only [Int32.lt_iff_toInt_lt, Int32.le_iff_toInt_le, ← Int32.toInt_inj, Int64.lt_iff_toInt_lt, Int64.le_iff_toInt_le, ← Int64.toInt_inj, Int32.toInt_toInt64, i_l0, i_l1, i_l2, i_l5, i_l19, i_m1, j_l0, j_l1, j_l5, i_l3, i_l4, i_l6, i_l7, i_l8, i_l9, i_l12, i_l16, i_l20, i_l60, i_l64, i_l100, i_l200, i_l304, i_l2000, i_l10000, i_l100000, i_l1000000, i_n1000000, i_n19, i_n101, e1, e2, e3, e4] at c12
    refine EV.iconst (pc := 34) (v := 0) dX5_isLike_34 (by decide) ?_
    refine EV.iret (pc := 35) dX5_isLike_35 (by rfl) ?_
    exact ⟨congrArg (fun z => some (Value.int z)) (by first | exact b2i_1 (by omega) | exact b2i_0 (by omega)), rfl⟩
  · try simp only [Int32.lt_iff_toInt_lt, Int32.le_iff_toInt_le, ← Int32.toInt_inj, Int64.lt_iff_toInt_lt, Int64.le_iff_toInt_le, ← Int64.toInt_inj, Int32.toInt_toInt64, i_l0, i_l1, i_l2, i_l5, i_l19, i_m1, j_l0, j_l1, j_l5, i_l3, i_l4, i_l6, i_l7, i_l8, i_l9, i_l12, i_l16, i_l20, i_l60, i_l64, i_l100, i_l200, i_l304, i_l2000, i_l10000, i_l100000, i_l1000000, i_n1000000, i_n19, i_n101, e1, e2, e3, e4] at c12
    refine EV.aload_n (pc := 15) dX5_isLike_15 rfl ?_
    refine EV.getf (pc := 16) dX5_isLike_16 fgX5_20 (by decide) hw.h34 rfl ?_
    refine EV.iload_n (pc := 19) dX5_isLike_19 rfl ?_
    refine EV.iald (pc := 20) dX5_isLike_20 (by decide) hw.h38 (vp_in_nI hk (by omega)) ?_
    refine EV.topi (y := nI (s_h s k)) (by rw [nI_clamp (by omega)]) ?_
    refine EV.aload_n (pc := 21) dX5_isLike_21 rfl ?_
    refine EV.getf (pc := 22) dX5_isLike_22 fgX5_20 (by decide) hw.h34 rfl ?_
    refine EV.iload_n (pc := 25) dX5_isLike_25 rfl ?_
    refine EV.iald (pc := 26) dX5_isLike_26 (by decide) hw.h38 (vp_in_nI hj (by omega)) ?_
    refine EV.topi (y := nI (s_h s j)) (by rw [nI_clamp (by omega)]) ?_
    refine EV.icmp_ne (pc := 27) (tgt := 34) dX5_isLike_27 (by decide) (fun c27 => ?_) (fun c27 => ?_)
    · try simp only [Int32.lt_iff_toInt_lt, Int32.le_iff_toInt_le, ← Int32.toInt_inj, Int64.lt_iff_toInt_lt, Int64.le_iff_toInt_le, ← Int64.toInt_inj, Int32.toInt_toInt64, i_l0, i_l1, i_l2, i_l5, i_l19, i_m1, j_l0, j_l1, j_l5, i_l3, i_l4, i_l6, i_l7, i_l8, i_l9, i_l12, i_l16, i_l20, i_l60, i_l64, i_l100, i_l200, i_l304, i_l2000, i_l10000, i_l100000, i_l1000000, i_n1000000, i_n19, i_n101, e1, e2, e3, e4] at c27
      refine EV.iconst (pc := 34) (v := 0) dX5_isLike_34 (by decide) ?_
      refine EV.iret (pc := 35) dX5_isLike_35 (by rfl) ?_
      exact ⟨congrArg (fun z => some (Value.int z)) (by first | exact b2i_1 (by omega) | exact b2i_0 (by omega)), rfl⟩
    · try simp only [Int32.lt_iff_toInt_lt, Int32.le_iff_toInt_le, ← Int32.toInt_inj, Int64.lt_iff_toInt_lt, Int64.le_iff_toInt_le, ← Int64.toInt_inj, Int32.toInt_toInt64, i_l0, i_l1, i_l2, i_l5, i_l19, i_m1, j_l0, j_l1, j_l5, i_l3, i_l4, i_l6, i_l7, i_l8, i_l9, i_l12, i_l16, i_l20, i_l60, i_l64, i_l100, i_l200, i_l304, i_l2000, i_l10000, i_l100000, i_l1000000, i_n1000000, i_n19, i_n101, e1, e2, e3, e4] at c27
      refine EV.iconst (pc := 30) (v := 1) dX5_isLike_30 (by decide) ?_
      refine EV.goto (pc := 31) (tgt := 35) dX5_isLike_31 (by decide) ?_
      refine EV.iret (pc := 35) dX5_isLike_35 (by rfl) ?_
      exact ⟨congrArg (fun z => some (Value.int z)) (by first | exact b2i_1 (by omega) | exact b2i_0 (by omega)), rfl⟩

set_option maxHeartbeats 4000000 in
set_option maxRecDepth 100000 in
theorem q_seen {G : eG} {ad : Nat → Nat} {h : Nat → va_E} {s : St} {z : Zm} {hm : Nat → va_E} (hw : MW G ad s z hm h) (hI : Inv s)   : MC G M_X5_seen cX5_seen ad 54 [.ref (ad 34)] h (PM G ad hm (.int (s_sn s)) s) := by
  refine MC.of (by decide +kernel) (Nat.le_of_ble_eq_true rfl) (by dsimp only [linit, Nat.reduceSub, List.reduceReplicate] <;> rfl) ?_
  refine EV.aload_n (pc := 0) dX5_seen_0 rfl ?_
  refine EV.getf (pc := 1) dX5_seen_1 fgX5_110 (by decide) hw.h34 rfl ?_
  exact EV.iret (pc := 4) dX5_seen_4 trivial ⟨rfl, z, hw⟩

set_option maxHeartbeats 4000000 in
set_option maxRecDepth 100000 in
theorem q_cause {G : eG} {ad : Nat → Nat} {h : Nat → va_E} {s : St} {z : Zm} {hm : Nat → va_E} (hw : MW G ad s z hm h) (hI : Inv s)   : MC G M_X5_cause cX5_cause ad 54 [.ref (ad 34)] h (PM G ad hm (.int (s_cs s)) s) := by
  refine MC.of (by decide +kernel) (Nat.le_of_ble_eq_true rfl) (by dsimp only [linit, Nat.reduceSub, List.reduceReplicate] <;> rfl) ?_
  refine EV.aload_n (pc := 0) dX5_cause_0 rfl ?_
  refine EV.getf (pc := 1) dX5_cause_1 fgX5_69 (by decide) hw.h34 rfl ?_
  exact EV.iret (pc := 4) dX5_cause_4 trivial ⟨rfl, z, hw⟩

set_option maxHeartbeats 4000000 in
set_option maxRecDepth 100000 in
theorem q_clear {G : eG} {ad : Nat → Nat} {h : Nat → va_E} {s : St} {z : Zm} {hm : Nat → va_E} (hw : MW G ad s z hm h) (hI : Inv s)   : MC G M_X5_clear cX5_clear ad 54 [.ref (ad 34)] h (PM G ad hm (.int (f_clear s).1) (f_clear s).2) := by
  refine MC.of (by decide +kernel) (Nat.le_of_ble_eq_true rfl) (by dsimp only [linit, Nat.reduceSub, List.reduceReplicate] <;> rfl) ?_
  refine EV.aload_n (pc := 0) dX5_clear_0 rfl ?_
  refine EV.getf (pc := 1) dX5_clear_1 fgX5_173 (by decide) hw.h34 rfl ?_
  refine EV.istore_n (pc := 4) 1 dX5_clear_4 rfl (by decide) (by dsimp only [lst1, lk] <;> rfl) ?_
  refine EV.aload_n (pc := 5) dX5_clear_5 rfl ?_
  refine EV.iconst (pc := 6) (v := 0) dX5_clear_6 (by decide) ?_
  refine EV.putf (pc := 7) dX5_clear_7 fpX5_173 (by decide) hw.h34 rfl rfl (Nat.le_of_ble_eq_true rfl) ?_
  refine EV.abs (Pr := MW G ad (S_lc s 0) z hm) (hw.set_lc 0) (fun h hw => ?_)
  refine EV.iload_n (pc := 10) dX5_clear_10 rfl ?_
  exact EV.iret (pc := 11) dX5_clear_11 trivial ⟨rfl, z, hw⟩

set_option maxHeartbeats 4000000 in
set_option maxRecDepth 100000 in
theorem q_causes {G : eG} {ad : Nat → Nat} {h : Nat → va_E} {s : St} {z : Zm} {hm : Nat → va_E} (hw : MW G ad s z hm h) (hI : Inv s) (c : Int32)  : MC G M_X5_causes cX5_causes ad 54 [.ref (ad 34), .int c] h (PM G ad hm (.int (f_causes s c)) s) := by
  refine MC.of (by decide +kernel) (Nat.le_of_ble_eq_true rfl) (by dsimp only [linit, Nat.reduceSub, List.reduceReplicate] <;> rfl) ?_
  refine EV.iload_n (pc := 0) dX5_causes_0 rfl ?_
  refine EV.i2l (pc := 1) dX5_causes_1 ?_
  refine EV.lconst (pc := 2) (v := 1) dX5_causes_2 (by decide) ?_
  refine EV.ldc2 (pc := 3) dX5_causes_3 kcX5_73 ?_
  refine EV.callSR1 (pc := 6) (M' := M_X5_in) dX5_causes_6 lkX5_75 okS_X5_in (n_in _ _ _) (by decide) rfl rfl (Nat.le_of_ble_eq_true rfl) ?_
  refine EV.if_eq (pc := 9) (tgt := 21) dX5_causes_9 (by decide) (fun c9 => ?_) (fun c9 => ?_)
  · replace c9 := b2i_F c9
    try simp only [Int32.lt_iff_toInt_lt, Int32.le_iff_toInt_le, ← Int32.toInt_inj, Int64.lt_iff_toInt_lt, Int64.le_iff_toInt_le, ← Int64.toInt_inj, Int32.toInt_toInt64, i_l0, i_l1, i_l2, i_l5, i_l19, i_m1, j_l0, j_l1, j_l5, i_l3, i_l4, i_l6, i_l7, i_l8, i_l9, i_l12, i_l16, i_l20, i_l60, i_l64, i_l100, i_l200, i_l304, i_l2000, i_l10000, i_l100000, i_l1000000, i_n1000000, i_n19, i_n101] at c9
    refine EV.bipush (pc := 21) (v := -102) dX5_causes_21 (by decide) ?_
    refine EV.iret (pc := 23) dX5_causes_23 trivial ?_
    refine ⟨congrArg (fun z => some (Value.int z)) ?_, z, hw⟩
    unfold f_causes
    first | (rw [if_pos (by omega)]; rfl) | (rw [if_neg (by omega)])
  · replace c9 := b2i_T c9
    try simp only [Int32.lt_iff_toInt_lt, Int32.le_iff_toInt_le, ← Int32.toInt_inj, Int64.lt_iff_toInt_lt, Int64.le_iff_toInt_le, ← Int64.toInt_inj, Int32.toInt_toInt64, i_l0, i_l1, i_l2, i_l5, i_l19, i_m1, j_l0, j_l1, j_l5, i_l3, i_l4, i_l6, i_l7, i_l8, i_l9, i_l12, i_l16, i_l20, i_l60, i_l64, i_l100, i_l200, i_l304, i_l2000, i_l10000, i_l100000, i_l1000000, i_n1000000, i_n19, i_n101] at c9
    refine EV.aload_n (pc := 12) dX5_causes_12 rfl ?_
    refine EV.getf (pc := 13) dX5_causes_13 fgX5_63 (by decide) hw.h34 rfl ?_
    refine EV.iload_n (pc := 16) dX5_causes_16 rfl ?_
    refine EV.iald (pc := 17) dX5_causes_17 (by decide) hw.h52 (by rw [vp_in_iff]; omega) ?_
    refine EV.goto (pc := 18) (tgt := 23) dX5_causes_18 (by decide) ?_
    refine EV.iret (pc := 23) dX5_causes_23 trivial ?_
    refine ⟨congrArg (fun z => some (Value.int z)) ?_, z, hw⟩
    unfold f_causes
    first | (rw [if_pos (by omega)]; rfl) | (rw [if_neg (by omega)])

theorem nb_T {b : Bool} (h : b2i (!b) = 0) : b = true := by cases b <;> simp [b2i] at h ⊢
theorem nb_F {b : Bool} (h : ¬ b2i (!b) = 0) : b = false := by cases b <;> simp [b2i] at h ⊢

set_option maxHeartbeats 4000000 in
set_option maxRecDepth 100000 in
theorem q_lose {G : eG} {ad : Nat → Nat} {h : Nat → va_E} {s : St} {z : Zm} {hm : Nat → va_E} (hw : MW G ad s z hm h) (hI : Inv s) (p : Int32)   : MC G M_X5_lose cX5_lose ad 54 [.ref (ad 34), .int p] h (PM G ad hm (.int (f_lose s p).1) (f_lose s p).2) := by
  by_cases hp : 0 ≤ p.toInt ∧ p.toInt ≤ 5
  · obtain ⟨k, rfl, ek, lk⟩ := i_nat hp.1
    have hk : k < 6 := by omega
    have e0 : f_lose s (nI k)  = g_lose s k  := by unfold f_lose; rw [if_pos hp, nI_tn (by omega)]
    rw [e0]
    have hd := hI.1 k hk
    refine MC.of (by decide +kernel) (Nat.le_of_ble_eq_true rfl) (by dsimp only [linit, Nat.reduceSub, List.reduceReplicate] <;> rfl) ?_
    refine EV.iload_n (pc := 0) dX5_lose_0 rfl ?_
    refine EV.callSR1 (pc := 1) (M' := M_X5_isPlate) dX5_lose_1 lkX5_82 okS_X5_isPlate (n_isPlate _) (by decide) rfl rfl (Nat.le_of_ble_eq_true rfl) ?_
    refine EV.if_ne (pc := 4) (tgt := 10) dX5_lose_4 (by decide) (fun _ => ?_) (fun q => absurd q (fun q => b2i_F q hp))
    refine EV.aload_n (pc := 10) dX5_lose_10 rfl ?_
    refine EV.getf (pc := 11) dX5_lose_11 fgX5_7 (by decide) hw.h34 rfl ?_
    refine EV.iload_n (pc := 14) dX5_lose_14 rfl ?_
    refine EV.zald (pc := 15) dX5_lose_15 (by decide) hw.h35 (vp_in_nI hk (by omega)) ?_
    refine EV.topi (y := b2i (!(s_lost s k))) (by rw [nI_clamp (by omega)]) ?_
    refine EV.if_ne (pc := 16) (tgt := 26) dX5_lose_16 (by decide) (fun c16 => ?_) (fun c16 => ?_)
    · refine EV.aload_n (pc := 26) dX5_lose_26 rfl ?_
      refine EV.getf (pc := 27) dX5_lose_27 fgX5_7 (by decide) hw.h34 rfl ?_
      refine EV.iload_n (pc := 30) dX5_lose_30 rfl ?_
      refine EV.iconst (pc := 31) (v := 0) dX5_lose_31 (by decide) ?_
      refine EV.zast (pc := 32) dX5_lose_32 (by decide) hw.h35 (vp_in_nI hk (by omega)) ?_
      refine EV.abs (Pr := MW G ad (S_lost s (va_up (s_lost s) k true)) z hm) (by have q := hw.set_lost k true; rw [nI_clamp (by omega)]; exact q) (fun h hw => ?_)
      refine EV.iconst (pc := 33) (v := 1) dX5_lose_33 (by decide) ?_
      refine EV.iret (pc := 34) dX5_lose_34 trivial ?_
      exact PM.i (by unfold g_lose; rw [if_neg (by rw [nb_F c16]; simp)]) hw
    · refine EV.aload_n (pc := 19) dX5_lose_19 rfl ?_
      refine EV.bipush (pc := 20) (v := -11) dX5_lose_20 (by decide) ?_
      refine EV.callVPi (pc := 22) (M' := M_X5_met) dX5_lose_22 lkX5_88 okV_X5_met (n_met 1 _ hw (by omega) (by decide +kernel)) (by decide) rfl rfl (Nat.le_of_ble_eq_true rfl) (by decide) hw.h34 (fun h hw => ?_)
      refine EV.iret (pc := 25) dX5_lose_25 trivial ?_
      exact PM.i (by unfold g_lose; rw [if_pos (nb_T c16)]) hw
  · have e0 : f_lose s p  = (-101, s) := by unfold f_lose; rw [if_neg hp]
    rw [e0]
    refine MC.of (by decide +kernel) (Nat.le_of_ble_eq_true rfl) (by dsimp only [linit, Nat.reduceSub, List.reduceReplicate] <;> rfl) ?_
    refine EV.iload_n (pc := 0) dX5_lose_0 rfl ?_
    refine EV.callSR1 (pc := 1) (M' := M_X5_isPlate) dX5_lose_1 lkX5_82 okS_X5_isPlate (n_isPlate _) (by decide) rfl rfl (Nat.le_of_ble_eq_true rfl) ?_
    refine EV.if_ne (pc := 4) (tgt := 10) dX5_lose_4 (by decide) (fun q => absurd (b2i_0 hp).symm q) (fun _ => ?_)
    refine EV.bipush (pc := 7) (v := -101) dX5_lose_7 (by decide) ?_
    exact EV.iret (pc := 9) dX5_lose_9 trivial ⟨rfl, z, hw⟩
