set_option maxHeartbeats 4000000 in
set_option maxRecDepth 100000 in
theorem q_comb {G : eG} {ad : Nat → Nat} {h : Nat → va_E} {s : St} {z : Zm} {hm : Nat → va_E} (hw : MW G ad s z hm h) (hI : Inv s) (a b r : Int32)  : MC G M_X5_comb cX5_comb ad 54 [.ref (ad 34), .int a, .int b, .int r] h (PM G ad hm (.int (f_comb s a b r).1) (f_comb s a b r).2) := by
  have hcn : s_cn s ≤ 4 := hI.2.2.1
  have en := nI_t (show s_cn s < 2147483648 by omega)
  clear hI
  refine MC.of (by decide +kernel) (Nat.le_of_ble_eq_true rfl) (by dsimp only [linit, Nat.reduceSub, List.reduceReplicate] <;> rfl) ?_
  refine EV.iload_n (pc := 0) dX5_comb_0 rfl ?_
  refine EV.i2l (pc := 1) dX5_comb_1 ?_
  refine EV.lconst (pc := 2) (v := 0) dX5_comb_2 (by decide) ?_
  refine EV.ldc2 (pc := 3) dX5_comb_3 kcX5_113 ?_
  refine EV.callSR1 (pc := 6) (M' := M_X5_in) dX5_comb_6 lkX5_75 okS_X5_in (n_in _ _ _) (by decide) rfl rfl (Nat.le_of_ble_eq_true rfl) ?_
  refine EV.if_eq (pc := 9) (tgt := 36) dX5_comb_9 (by decide) (fun c9 => ?_) (fun c9 => ?_)
  · replace c9 := b2i_F c9
    try simp only [Int32.lt_iff_toInt_lt, Int32.le_iff_toInt_le, ← Int32.toInt_inj, Int64.lt_iff_toInt_lt, Int64.le_iff_toInt_le, ← Int64.toInt_inj, Int32.toInt_toInt64, i_l0, i_l1, i_l2, i_l5, i_l19, i_m1, j_l0, j_l1, j_l5, i_l3, i_l4, i_l6, i_l7, i_l8, i_l9, i_l12, i_l16, i_l20, i_l60, i_l64, i_l100, i_l200, i_l304, i_l2000, i_l10000, i_l100000, i_l1000000, i_n1000000, i_n19, i_n101, j_l2, j_l3, j_l19, j_l304, j_l2000, j_l10000, j_l100000, j_l1000000, j_l60, j_l100, j_n1000000, j_n19, en] at c9
    refine EV.bipush (pc := 36) (v := -102) dX5_comb_36 (by decide) ?_
    refine EV.iret (pc := 38) dX5_comb_38 trivial ?_
    exact PM.i (by unfold f_comb; rw [if_neg (by omega)]) hw
  · replace c9 := b2i_T c9
    try simp only [Int32.lt_iff_toInt_lt, Int32.le_iff_toInt_le, ← Int32.toInt_inj, Int64.lt_iff_toInt_lt, Int64.le_iff_toInt_le, ← Int64.toInt_inj, Int32.toInt_toInt64, i_l0, i_l1, i_l2, i_l5, i_l19, i_m1, j_l0, j_l1, j_l5, i_l3, i_l4, i_l6, i_l7, i_l8, i_l9, i_l12, i_l16, i_l20, i_l60, i_l64, i_l100, i_l200, i_l304, i_l2000, i_l10000, i_l100000, i_l1000000, i_n1000000, i_n19, i_n101, j_l2, j_l3, j_l19, j_l304, j_l2000, j_l10000, j_l100000, j_l1000000, j_l60, j_l100, j_n1000000, j_n19, en] at c9
    refine EV.iload_n (pc := 12) dX5_comb_12 rfl ?_
    refine EV.i2l (pc := 13) dX5_comb_13 ?_
    refine EV.lconst (pc := 14) (v := 0) dX5_comb_14 (by decide) ?_
    refine EV.ldc2 (pc := 15) dX5_comb_15 kcX5_113 ?_
    refine EV.callSR1 (pc := 18) (M' := M_X5_in) dX5_comb_18 lkX5_75 okS_X5_in (n_in _ _ _) (by decide) rfl rfl (Nat.le_of_ble_eq_true rfl) ?_
    refine EV.if_eq (pc := 21) (tgt := 36) dX5_comb_21 (by decide) (fun c21 => ?_) (fun c21 => ?_)
    · replace c21 := b2i_F c21
      try simp only [Int32.lt_iff_toInt_lt, Int32.le_iff_toInt_le, ← Int32.toInt_inj, Int64.lt_iff_toInt_lt, Int64.le_iff_toInt_le, ← Int64.toInt_inj, Int32.toInt_toInt64, i_l0, i_l1, i_l2, i_l5, i_l19, i_m1, j_l0, j_l1, j_l5, i_l3, i_l4, i_l6, i_l7, i_l8, i_l9, i_l12, i_l16, i_l20, i_l60, i_l64, i_l100, i_l200, i_l304, i_l2000, i_l10000, i_l100000, i_l1000000, i_n1000000, i_n19, i_n101, j_l2, j_l3, j_l19, j_l304, j_l2000, j_l10000, j_l100000, j_l1000000, j_l60, j_l100, j_n1000000, j_n19, en] at c21
      refine EV.bipush (pc := 36) (v := -102) dX5_comb_36 (by decide) ?_
      refine EV.iret (pc := 38) dX5_comb_38 trivial ?_
      exact PM.i (by unfold f_comb; rw [if_neg (by omega)]) hw
    · replace c21 := b2i_T c21
      try simp only [Int32.lt_iff_toInt_lt, Int32.le_iff_toInt_le, ← Int32.toInt_inj, Int64.lt_iff_toInt_lt, Int64.le_iff_toInt_le, ← Int64.toInt_inj, Int32.toInt_toInt64, i_l0, i_l1, i_l2, i_l5, i_l19, i_m1, j_l0, j_l1, j_l5, i_l3, i_l4, i_l6, i_l7, i_l8, i_l9, i_l12, i_l16, i_l20, i_l60, i_l64, i_l100, i_l200, i_l304, i_l2000, i_l10000, i_l100000, i_l1000000, i_n1000000, i_n19, i_n101, j_l2, j_l3, j_l19, j_l304, j_l2000, j_l10000, j_l100000, j_l1000000, j_l60, j_l100, j_n1000000, j_n19, en] at c21
      refine EV.iload_n (pc := 24) dX5_comb_24 rfl ?_
      refine EV.i2l (pc := 25) dX5_comb_25 ?_
      refine EV.lconst (pc := 26) (v := 0) dX5_comb_26 (by decide) ?_
      refine EV.ldc2 (pc := 27) dX5_comb_27 kcX5_115 ?_
      refine EV.callSR1 (pc := 30) (M' := M_X5_in) dX5_comb_30 lkX5_75 okS_X5_in (n_in _ _ _) (by decide) rfl rfl (Nat.le_of_ble_eq_true rfl) ?_
      refine EV.if_ne (pc := 33) (tgt := 39) dX5_comb_33 (by decide) (fun c33 => ?_) (fun c33 => ?_)
      · replace c33 := b2i_T c33
        try simp only [Int32.lt_iff_toInt_lt, Int32.le_iff_toInt_le, ← Int32.toInt_inj, Int64.lt_iff_toInt_lt, Int64.le_iff_toInt_le, ← Int64.toInt_inj, Int32.toInt_toInt64, i_l0, i_l1, i_l2, i_l5, i_l19, i_m1, j_l0, j_l1, j_l5, i_l3, i_l4, i_l6, i_l7, i_l8, i_l9, i_l12, i_l16, i_l20, i_l60, i_l64, i_l100, i_l200, i_l304, i_l2000, i_l10000, i_l100000, i_l1000000, i_n1000000, i_n19, i_n101, j_l2, j_l3, j_l19, j_l304, j_l2000, j_l10000, j_l100000, j_l1000000, j_l60, j_l100, j_n1000000, j_n19, en] at c33
        refine EV.aload_n (pc := 39) dX5_comb_39 rfl ?_
        refine EV.getf (pc := 40) dX5_comb_40 fgX5_79 (by decide) hw.h34 rfl ?_
        refine EV.iconst (pc := 43) (v := 4) dX5_comb_43 (by decide) ?_
        refine EV.icmp_ne (pc := 44) (tgt := 50) dX5_comb_44 (by decide) (fun c44 => ?_) (fun c44 => ?_)
        · try simp only [Int32.lt_iff_toInt_lt, Int32.le_iff_toInt_le, ← Int32.toInt_inj, Int64.lt_iff_toInt_lt, Int64.le_iff_toInt_le, ← Int64.toInt_inj, Int32.toInt_toInt64, i_l0, i_l1, i_l2, i_l5, i_l19, i_m1, j_l0, j_l1, j_l5, i_l3, i_l4, i_l6, i_l7, i_l8, i_l9, i_l12, i_l16, i_l20, i_l60, i_l64, i_l100, i_l200, i_l304, i_l2000, i_l10000, i_l100000, i_l1000000, i_n1000000, i_n19, i_n101, j_l2, j_l3, j_l19, j_l304, j_l2000, j_l10000, j_l100000, j_l1000000, j_l60, j_l100, j_n1000000, j_n19, en] at c44
          have h4 : s_cn s < 4 := by omega
          obtain ⟨a1, rfl, ea1, la1⟩ := i_nat (show 0 ≤ a.toInt by omega)
          obtain ⟨b1, rfl, eb1, lb1⟩ := i_nat (show 0 ≤ b.toInt by omega)
          obtain ⟨r1, rfl, er1, lr1⟩ := i_nat (show 0 ≤ r.toInt by omega)
          refine EV.aload_n (pc := 50) dX5_comb_50 rfl ?_
          refine EV.getf (pc := 51) dX5_comb_51 fgX5_29 (by decide) hw.h34 rfl ?_
          refine EV.aload_n (pc := 54) dX5_comb_54 rfl ?_
          refine EV.getf (pc := 55) dX5_comb_55 fgX5_79 (by decide) hw.h34 rfl ?_
          refine EV.iload_n (pc := 58) dX5_comb_58 rfl ?_
          refine EV.iast (pc := 59) dX5_comb_59 (by decide) hw.h41 (vp_in_nI h4 (by omega)) ?_
          refine EV.abs (Pr := MW G ad (S_ca s (va_up (s_ca s) (s_cn s) a1)) z hm) (by have q := hw.set_ca (s_cn s) a1; rw [nI_clamp (by omega)]; exact q) (fun h hw => ?_)
          refine EV.aload_n (pc := 60) dX5_comb_60 rfl ?_
          refine EV.getf (pc := 61) dX5_comb_61 fgX5_32 (by decide) hw.h34 rfl ?_
          refine EV.aload_n (pc := 64) dX5_comb_64 rfl ?_
          refine EV.getf (pc := 65) dX5_comb_65 fgX5_79 (by decide) hw.h34 rfl ?_
          refine EV.iload_n (pc := 68) dX5_comb_68 rfl ?_
          refine EV.iast (pc := 69) dX5_comb_69 (by decide) hw.h42 (vp_in_nI h4 (by omega)) ?_
          refine EV.abs (Pr := MW G ad (S_cb (S_ca s (va_up (s_ca s) (s_cn s) a1)) (va_up (s_cb s) (s_cn s) b1)) z hm) (by have q := hw.set_cb (s_cn s) b1; have e9 : (nI (s_cn s)).toNatClampNeg = s_cn s := nI_clamp (by omega); rw [show (nI (s_cn (S_ca s (va_up (s_ca s) (s_cn s) a1)))).toNatClampNeg = s_cn s from e9]; exact q) (fun h hw => ?_)
          refine EV.aload_n (pc := 70) dX5_comb_70 rfl ?_
          refine EV.getf (pc := 71) dX5_comb_71 fgX5_35 (by decide) hw.h34 rfl ?_
          refine EV.aload_n (pc := 74) dX5_comb_74 rfl ?_
          refine EV.getf (pc := 75) dX5_comb_75 fgX5_79 (by decide) hw.h34 rfl ?_
          refine EV.iload_n (pc := 78) dX5_comb_78 rfl ?_
          refine EV.iast (pc := 79) dX5_comb_79 (by decide) hw.h43 (vp_in_nI h4 (by omega)) ?_
          refine EV.abs (Pr := MW G ad (S_cr (S_cb (S_ca s (va_up (s_ca s) (s_cn s) a1)) (va_up (s_cb s) (s_cn s) b1)) (va_up (s_cr s) (s_cn s) r1)) z hm) (by have q := hw.set_cr (s_cn s) r1; have e9 : (nI (s_cn s)).toNatClampNeg = s_cn s := nI_clamp (by omega); rw [show (nI (s_cn (S_cb (S_ca s (va_up (s_ca s) (s_cn s) a1)) (va_up (s_cb s) (s_cn s) b1)))).toNatClampNeg = s_cn s from e9]; exact q) (fun h hw => ?_)
          refine EV.aload_n (pc := 80) dX5_comb_80 rfl ?_
          refine EV.dup (pc := 81) dX5_comb_81 rfl ?_
          refine EV.getf (pc := 82) dX5_comb_82 fgX5_79 (by decide) hw.h34 rfl ?_
          refine EV.iconst (pc := 85) (v := 1) dX5_comb_85 (by decide) ?_
          refine EV.iadd (pc := 86) dX5_comb_86 ?_
          refine EV.topi (y := nI (s_cn s + 1)) (nI_p1 _) ?_
          refine EV.putf (pc := 87) dX5_comb_87 fpX5_79 (by decide) hw.h34 rfl rfl (Nat.le_of_ble_eq_true rfl) ?_
          refine EV.abs (Pr := MW G ad (S_cn (S_cr (S_cb (S_ca s (va_up (s_ca s) (s_cn s) a1)) (va_up (s_cb s) (s_cn s) b1)) (va_up (s_cr s) (s_cn s) r1)) (s_cn s + 1)) z hm) (hw.set_cn (s_cn s + 1)) (fun h hw => ?_)
          refine EV.aload_n (pc := 90) dX5_comb_90 rfl ?_
          refine EV.getf (pc := 91) dX5_comb_91 fgX5_79 (by decide) hw.h34 rfl ?_
          refine EV.iconst (pc := 94) (v := 1) dX5_comb_94 (by decide) ?_
          refine EV.isub (pc := 95) dX5_comb_95 ?_
          refine EV.topi (y := nI (s_cn s)) (by rw [nI_m1 (show 1 ≤ s_cn s + 1 by omega), Nat.add_sub_cancel]) ?_
          refine EV.iret (pc := 96) dX5_comb_96 trivial ?_
          exact PM.i (by unfold f_comb; rw [if_pos (by omega), if_pos h4, nI_tn (by omega), nI_tn (by omega), nI_tn (by omega)]) hw
        · try simp only [Int32.lt_iff_toInt_lt, Int32.le_iff_toInt_le, ← Int32.toInt_inj, Int64.lt_iff_toInt_lt, Int64.le_iff_toInt_le, ← Int64.toInt_inj, Int32.toInt_toInt64, i_l0, i_l1, i_l2, i_l5, i_l19, i_m1, j_l0, j_l1, j_l5, i_l3, i_l4, i_l6, i_l7, i_l8, i_l9, i_l12, i_l16, i_l20, i_l60, i_l64, i_l100, i_l200, i_l304, i_l2000, i_l10000, i_l100000, i_l1000000, i_n1000000, i_n19, i_n101, j_l2, j_l3, j_l19, j_l304, j_l2000, j_l10000, j_l100000, j_l1000000, j_l60, j_l100, j_n1000000, j_n19, en] at c44
          refine EV.bipush (pc := 47) (v := -104) dX5_comb_47 (by decide) ?_
          refine EV.iret (pc := 49) dX5_comb_49 trivial ?_
          exact PM.i (by unfold f_comb; rw [if_pos (by omega), if_neg (by omega)]) hw
      · replace c33 := b2i_F c33
        try simp only [Int32.lt_iff_toInt_lt, Int32.le_iff_toInt_le, ← Int32.toInt_inj, Int64.lt_iff_toInt_lt, Int64.le_iff_toInt_le, ← Int64.toInt_inj, Int32.toInt_toInt64, i_l0, i_l1, i_l2, i_l5, i_l19, i_m1, j_l0, j_l1, j_l5, i_l3, i_l4, i_l6, i_l7, i_l8, i_l9, i_l12, i_l16, i_l20, i_l60, i_l64, i_l100, i_l200, i_l304, i_l2000, i_l10000, i_l100000, i_l1000000, i_n1000000, i_n19, i_n101, j_l2, j_l3, j_l19, j_l304, j_l2000, j_l10000, j_l100000, j_l1000000, j_l60, j_l100, j_n1000000, j_n19, en] at c33
        refine EV.bipush (pc := 36) (v := -102) dX5_comb_36 (by decide) ?_
        refine EV.iret (pc := 38) dX5_comb_38 trivial ?_
        exact PM.i (by unfold f_comb; rw [if_neg (by omega)]) hw
