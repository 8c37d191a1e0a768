theorem ix3 {j i : Nat} {d : Int32} (hj : j < 4) (hi : i < 100) (hd : -1000 ≤ d.toInt ∧ d.toInt ≤ 1000) (h0 : 0 ≤ (i : Int) + d.toInt) : 20 * nI j + nI i + d = nI (20 * j + ((i : Int) + d.toInt).toNat) := by
  rw [ix2, nI_iI, nI_iI]
  conv => lhs; rw [← iI_of d]
  rw [iI_add]
  exact iI_b (by omega)

set_option maxHeartbeats 4000000 in
set_option maxRecDepth 100000 in
theorem l_nshift {G : eG} {ad : Nat → Nat} {h : Nat → va_E} {s : St} {z : Zm} {hm : Nat → va_E} (hw : MW G ad s z hm h) (k j : Nat) (d : Int32) (hk4 : k < 4) (hj4 : j < 4) (hcok : s_co s k ≤ 20) (hcoj : s_co s j ≤ 20) (hd : -1000 ≤ d.toInt ∧ d.toInt ≤ 1000) : ∀ (n i : Nat), i + n = s_co s k → EV G M_X5_shiftOf cX5_shiftOf none ad 54 (IS (some (.long (csN (s_nm s k) (s_nm s j) (s_co s j) d.toInt (s_co s k)))) h) 6 [some (.ref (ad 34)), some (.int (nI k)), some (.int (nI j)), some (.int d), some (.long (csN (s_nm s k) (s_nm s j) (s_co s j) d.toInt i)), none, some (.int (nI i))] [] h := by
  intro n
  induction n with
  | zero =>
    intro i hi
    have e : i = s_co s k := by omega
    subst e
    refine EV.iload (pc := 6) dX5_shiftOf_6 rfl ?_
    refine EV.aload_n (pc := 8) dX5_shiftOf_8 rfl ?_
    refine EV.getf (pc := 9) dX5_shiftOf_9 fgX5_38 (by decide) hw.h34 rfl ?_
    refine EV.iload_n (pc := 12) dX5_shiftOf_12 rfl ?_
    refine EV.iald (pc := 13) dX5_shiftOf_13 (by decide) hw.h44 (vp_in_nI (show k < 4 by omega) (by omega)) ?_
    refine EV.topi (y := nI (s_co s k)) (by rw [nI_clamp (by omega)]) ?_
    refine EV.icmp_ge (pc := 14) (tgt := 76) dX5_shiftOf_14 (by decide) (fun _ => ?_) (fun q => absurd ((nI_leI (a := s_co s k) (b := s_co s k) (by omega) (by omega)).mpr (Nat.le_refl _)) q)
    refine EV.lload (pc := 76) dX5_shiftOf_76 rfl ?_
    exact EV.lret (pc := 78) dX5_shiftOf_78 trivial ⟨rfl, rfl⟩
  | succ n ih =>
    intro i hi
    have hi2 : i < s_co s k := by omega
    refine EV.iload (pc := 6) dX5_shiftOf_6 rfl ?_
    refine EV.aload_n (pc := 8) dX5_shiftOf_8 rfl ?_
    refine EV.getf (pc := 9) dX5_shiftOf_9 fgX5_38 (by decide) hw.h34 rfl ?_
    refine EV.iload_n (pc := 12) dX5_shiftOf_12 rfl ?_
    refine EV.iald (pc := 13) dX5_shiftOf_13 (by decide) hw.h44 (vp_in_nI (show k < 4 by omega) (by omega)) ?_
    refine EV.topi (y := nI (s_co s k)) (by rw [nI_clamp (by omega)]) ?_
    refine EV.icmp_ge (pc := 14) (tgt := 76) dX5_shiftOf_14 (by decide) (fun q => absurd q (fun z => absurd ((nI_leI (a := s_co s k) (b := i) (by omega) (by omega)).mp z) (by omega))) (fun _ => ?_)
    have ed := i_addn (i := i) (d := d) (by omega) hd
    have e1 : (nI (s_co s j) - 1).toInt = (s_co s j : Int) - 1 := by rw [nI_iI, show (1 : Int32) = iI 1 from iI_lit 1, iI_sub, iI_toInt (by omega) (by omega)]
    refine EV.iload (pc := 17) dX5_shiftOf_17 rfl ?_
    refine EV.iload_n (pc := 19) dX5_shiftOf_19 rfl ?_
    refine EV.iadd (pc := 20) dX5_shiftOf_20 ?_
    refine EV.i2l (pc := 21) dX5_shiftOf_21 ?_
    refine EV.lconst (pc := 22) (v := 0) dX5_shiftOf_22 (by decide) ?_
    refine EV.aload_n (pc := 23) dX5_shiftOf_23 rfl ?_
    refine EV.getf (pc := 24) dX5_shiftOf_24 fgX5_38 (by decide) hw.h34 rfl ?_
    refine EV.iload_n (pc := 27) dX5_shiftOf_27 rfl ?_
    refine EV.iald (pc := 28) dX5_shiftOf_28 (by decide) hw.h44 (vp_in_nI (show j < 4 by omega) (by omega)) ?_
    refine EV.topi (y := nI (s_co s j)) (by rw [nI_clamp (by omega)]) ?_
    refine EV.iconst (pc := 29) (v := 1) dX5_shiftOf_29 (by decide) ?_
    refine EV.isub (pc := 30) dX5_shiftOf_30 ?_
    refine EV.i2l (pc := 31) dX5_shiftOf_31 ?_
    refine EV.callSR1 (pc := 32) (M' := M_X5_in) dX5_shiftOf_32 lkX5_75 okS_X5_in (n_in _ _ _) (by decide) rfl rfl (Nat.le_of_ble_eq_true rfl) ?_
    refine EV.if_eq (pc := 35) (tgt := 70) dX5_shiftOf_35 (by decide) (fun c35 => ?_) (fun c35 => ?_)
    · replace c35 := b2i_F c35
      try simp only [Int32.toInt_toInt64, j_l0, ed, e1] at c35
      refine EV.iinc (pc := 70) dX5_shiftOf_70 (by decide) rfl (by first | exact nI_inc _ | rfl) (by dsimp only [lst1, lk] <;> rfl) ?_
      refine EV.goto (pc := 73) (tgt := 6) dX5_shiftOf_73 (by decide) ?_
      refine EV.eq rfl ?_ rfl rfl (ih (i + 1) (by omega))
      simp only [csN]
      first | (rw [if_pos (by omega)]) | (rw [if_neg (by omega)])
    · replace c35 := b2i_T c35
      try simp only [Int32.toInt_toInt64, j_l0, ed, e1] at c35
      refine EV.lload (pc := 38) dX5_shiftOf_38 rfl ?_
      refine EV.aload_n (pc := 40) dX5_shiftOf_40 rfl ?_
      refine EV.getf (pc := 41) dX5_shiftOf_41 fgX5_41 (by decide) hw.h34 rfl ?_
      refine EV.bipush (pc := 44) (v := 20) dX5_shiftOf_44 (by decide) ?_
      refine EV.iload_n (pc := 46) dX5_shiftOf_46 rfl ?_
      refine EV.imul (pc := 47) dX5_shiftOf_47 ?_
      refine EV.iload (pc := 48) dX5_shiftOf_48 rfl ?_
      refine EV.iadd (pc := 50) dX5_shiftOf_50 ?_
      refine EV.topi (y := nI (20 * k + i)) (ix2 k i) ?_
      refine EV.lald (pc := 51) dX5_shiftOf_51 (by decide) hw.h45 (vp_in_nI (show 20 * k + i < 80 by omega) (by omega)) ?_
      refine EV.topl (y := lN (s_nm s k i)) (by rw [nI_clamp (by omega)]; exact congrArg lN (n_rd2 (f := s_nm s) (by omega))) ?_
      refine EV.aload_n (pc := 52) dX5_shiftOf_52 rfl ?_
      refine EV.getf (pc := 53) dX5_shiftOf_53 fgX5_41 (by decide) hw.h34 rfl ?_
      refine EV.bipush (pc := 56) (v := 20) dX5_shiftOf_56 (by decide) ?_
      refine EV.iload_n (pc := 58) dX5_shiftOf_58 rfl ?_
      refine EV.imul (pc := 59) dX5_shiftOf_59 ?_
      refine EV.iload (pc := 60) dX5_shiftOf_60 rfl ?_
      refine EV.iadd (pc := 62) dX5_shiftOf_62 ?_
      refine EV.iload_n (pc := 63) dX5_shiftOf_63 rfl ?_
      refine EV.iadd (pc := 64) dX5_shiftOf_64 ?_
      refine EV.topi (y := nI (20 * j + ((i : Int) + d.toInt).toNat)) (ix3 hj4 (by omega) hd (by omega)) ?_
      refine EV.lald (pc := 65) dX5_shiftOf_65 (by decide) hw.h45 (vp_in_nI (show 20 * j + ((i : Int) + d.toInt).toNat < 80 by omega) (by omega)) ?_
      refine EV.topl (y := lN (s_nm s j ((i : Int) + d.toInt).toNat)) (by rw [nI_clamp (by omega)]; exact congrArg lN (n_rd2 (f := s_nm s) (by omega))) ?_
      refine EV.lmul (pc := 66) dX5_shiftOf_66 ?_
      refine EV.ladd (pc := 67) dX5_shiftOf_67 ?_
      refine EV.lstore (pc := 68) dX5_shiftOf_68 (by decide) (by dsimp only [lst2, lno, lk] <;> rfl) ?_
      refine EV.iinc (pc := 70) dX5_shiftOf_70 (by decide) rfl (by first | exact nI_inc _ | rfl) (by dsimp only [lst1, lk] <;> rfl) ?_
      refine EV.goto (pc := 73) (tgt := 6) dX5_shiftOf_73 (by decide) ?_
      refine EV.eq rfl ?_ rfl rfl (ih (i + 1) (by omega))
      simp only [csN]
      first | (rw [if_pos (by omega)]) | (rw [if_neg (by omega)])

set_option maxHeartbeats 4000000 in
set_option maxRecDepth 100000 in
theorem n_shiftOf {G : eG} {ad : Nat → Nat} {h : Nat → va_E} (k j : Nat) (d : Int32) {s : St} {z : Zm} {hm : Nat → va_E} (hw : MW G ad s z hm h) (hk4 : k < 4) (hj4 : j < 4) (hcok : s_co s k ≤ 20) (hcoj : s_co s j ≤ 20) (hd : -1000 ≤ d.toInt ∧ d.toInt ≤ 1000) : MC G M_X5_shiftOf cX5_shiftOf ad 54 [.ref (ad 34), .int (nI k), .int (nI j), .int d] h (IS (some (.long (csN (s_nm s k) (s_nm s j) (s_co s j) d.toInt (s_co s k)))) h) := by
  refine MC.of (by decide +kernel) (Nat.le_of_ble_eq_true rfl) (by dsimp only [linit, Nat.reduceSub, List.reduceReplicate] <;> rfl) ?_
  refine EV.lconst (pc := 0) (v := 0) dX5_shiftOf_0 (by decide) ?_
  refine EV.lstore (pc := 1) dX5_shiftOf_1 (by decide) (by dsimp only [lst2, lno, lk] <;> rfl) ?_
  refine EV.iconst (pc := 3) (v := 0) dX5_shiftOf_3 (by decide) ?_
  refine EV.istore (pc := 4) dX5_shiftOf_4 (by decide) (by dsimp only [lst1, lk] <;> rfl) ?_
  exact l_nshift hw k j d hk4 hj4 hcok hcoj hd (s_co s k) 0 (by omega)

set_option maxHeartbeats 4000000 in
set_option maxRecDepth 100000 in
theorem q_shift {G : eG} {ad : Nat → Nat} {h : Nat → va_E} {s : St} {z : Zm} {hm : Nat → va_E} (hw : MW G ad s z hm h) (hI : Inv s) (c d x : Int32)  : MC G M_X5_shift cX5_shift ad 54 [.ref (ad 34), .int c, .int d, .int x] h (PM G ad hm (.long (f_shift s c d x)) s) := by
  have hcn : s_cn s ≤ 4 := hI.2.2.1
  by_cases hpk : 0 ≤ c.toInt ∧ c.toInt < s_cn s
  · obtain ⟨k, rfl, ek, lk⟩ := i_nat hpk.1
    have hk : k < s_cn s := by omega
    have hk4 : k < 4 := by omega
    have hbk := hI.2.2.2.1 k hk4
    by_cases hpj : 0 ≤ d.toInt ∧ d.toInt < s_cn s
    · obtain ⟨j, rfl, ej, lj⟩ := i_nat hpj.1
      have hj : j < s_cn s := by omega
      have hj4 : j < 4 := by omega
      have hbj := hI.2.2.2.1 j hj4
      refine MC.of (by decide +kernel) (Nat.le_of_ble_eq_true rfl) (by dsimp only [linit, Nat.reduceSub, List.reduceReplicate] <;> rfl) ?_
      refine EV.aload_n (pc := 0) dX5_shift_0 rfl ?_
      refine EV.iload_n (pc := 1) dX5_shift_1 rfl ?_
      refine EV.callVR1 (pc := 2) (M' := M_X5_isComb) dX5_shift_2 lkX5_117 okV_X5_isComb (n_isComb _ hw hcn) (by decide) rfl rfl (Nat.le_of_ble_eq_true rfl) (by decide) hw.h34 ?_
      refine EV.if_eq (pc := 5) (tgt := 16) dX5_shift_5 (by decide) (fun q => absurd q (fun q => b2i_F q hpk)) (fun _ => ?_)
      refine EV.aload_n (pc := 8) dX5_shift_8 rfl ?_
      refine EV.iload_n (pc := 9) dX5_shift_9 rfl ?_
      refine EV.callVR1 (pc := 10) (M' := M_X5_isComb) dX5_shift_10 lkX5_117 okV_X5_isComb (n_isComb _ hw hcn) (by decide) rfl rfl (Nat.le_of_ble_eq_true rfl) (by decide) hw.h34 ?_
      refine EV.if_ne (pc := 13) (tgt := 20) dX5_shift_13 (by decide) (fun _ => ?_) (fun q => absurd q (fun q => b2i_F q hpj))
      refine EV.iload_n (pc := 20) dX5_shift_20 rfl ?_
      refine EV.i2l (pc := 21) dX5_shift_21 ?_
      refine EV.ldc2 (pc := 22) dX5_shift_22 kcX5_222 ?_
      refine EV.ldc2 (pc := 25) dX5_shift_25 kcX5_108 ?_
      refine EV.callSR1 (pc := 28) (M' := M_X5_in) dX5_shift_28 lkX5_75 okS_X5_in (n_in _ _ _) (by decide) rfl rfl (Nat.le_of_ble_eq_true rfl) ?_
      refine EV.if_eq (pc := 31) (tgt := 44) dX5_shift_31 (by decide) (fun c31 => ?_) (fun c31 => ?_)
      · replace c31 := b2i_F c31
        try simp only [Int32.lt_iff_toInt_lt, Int32.le_iff_toInt_le, ← Int32.toInt_inj, Int64.lt_iff_toInt_lt, Int64.le_iff_toInt_le, ← Int64.toInt_inj, Int32.toInt_toInt64, i_l0, i_l1, i_l2, i_l5, i_l19, i_m1, j_l0, j_l1, j_l5, i_l3, i_l4, i_l6, i_l7, i_l8, i_l9, i_l12, i_l16, i_l20, i_l60, i_l64, i_l100, i_l200, i_l304, i_l2000, i_l10000, i_l100000, i_l1000000, i_n1000000, i_n19, i_n101, j_l2, j_l3, j_l19, j_l304, j_l2000, j_l10000, j_l100000, j_l1000000, j_l60, j_l100, j_n1000000, j_n19] at c31
        refine EV.ldc2 (pc := 44) dX5_shift_44 kcX5_228 ?_
        refine EV.lret (pc := 47) dX5_shift_47 trivial ?_
        exact PM.mk (by unfold f_shift; rw [if_pos ⟨hpk, hpj⟩]; first | (rw [if_neg (by omega)]) | (rw [if_pos (by omega), nI_tn (by omega), nI_tn (by omega)])) rfl hw
      · replace c31 := b2i_T c31
        try simp only [Int32.lt_iff_toInt_lt, Int32.le_iff_toInt_le, ← Int32.toInt_inj, Int64.lt_iff_toInt_lt, Int64.le_iff_toInt_le, ← Int64.toInt_inj, Int32.toInt_toInt64, i_l0, i_l1, i_l2, i_l5, i_l19, i_m1, j_l0, j_l1, j_l5, i_l3, i_l4, i_l6, i_l7, i_l8, i_l9, i_l12, i_l16, i_l20, i_l60, i_l64, i_l100, i_l200, i_l304, i_l2000, i_l10000, i_l100000, i_l1000000, i_n1000000, i_n19, i_n101, j_l2, j_l3, j_l19, j_l304, j_l2000, j_l10000, j_l100000, j_l1000000, j_l60, j_l100, j_n1000000, j_n19] at c31
        refine EV.aload_n (pc := 34) dX5_shift_34 rfl ?_
        refine EV.iload_n (pc := 35) dX5_shift_35 rfl ?_
        refine EV.iload_n (pc := 36) dX5_shift_36 rfl ?_
        refine EV.iload_n (pc := 37) dX5_shift_37 rfl ?_
        refine EV.callVR1 (pc := 38) (M' := M_X5_shiftOf) dX5_shift_38 lkX5_224 okV_X5_shiftOf (n_shiftOf k j x hw hk4 hj4 hbk.2.2.2 hbj.2.2.2 (by omega)) (by decide) rfl rfl (Nat.le_of_ble_eq_true rfl) (by decide) hw.h34 ?_
        refine EV.goto (pc := 41) (tgt := 47) dX5_shift_41 (by decide) ?_
        refine EV.lret (pc := 47) dX5_shift_47 trivial ?_
        exact PM.mk (by unfold f_shift; rw [if_pos ⟨hpk, hpj⟩]; first | (rw [if_neg (by omega)]) | (rw [if_pos (by omega), nI_tn (by omega), nI_tn (by omega)])) rfl hw
    · refine MC.of (by decide +kernel) (Nat.le_of_ble_eq_true rfl) (by dsimp only [linit, Nat.reduceSub, List.reduceReplicate] <;> rfl) ?_
      refine EV.aload_n (pc := 0) dX5_shift_0 rfl ?_
      refine EV.iload_n (pc := 1) dX5_shift_1 rfl ?_
      refine EV.callVR1 (pc := 2) (M' := M_X5_isComb) dX5_shift_2 lkX5_117 okV_X5_isComb (n_isComb _ hw hcn) (by decide) rfl rfl (Nat.le_of_ble_eq_true rfl) (by decide) hw.h34 ?_
      refine EV.if_eq (pc := 5) (tgt := 16) dX5_shift_5 (by decide) (fun q => absurd q (fun q => b2i_F q hpk)) (fun _ => ?_)
      refine EV.aload_n (pc := 8) dX5_shift_8 rfl ?_
      refine EV.iload_n (pc := 9) dX5_shift_9 rfl ?_
      refine EV.callVR1 (pc := 10) (M' := M_X5_isComb) dX5_shift_10 lkX5_117 okV_X5_isComb (n_isComb _ hw hcn) (by decide) rfl rfl (Nat.le_of_ble_eq_true rfl) (by decide) hw.h34 ?_
      refine EV.if_ne (pc := 13) (tgt := 20) dX5_shift_13 (by decide) (fun q => absurd (b2i_0 hpj).symm q) (fun _ => ?_)
      refine EV.ldc2 (pc := 16) dX5_shift_16 kcX5_158 ?_
      refine EV.lret (pc := 19) dX5_shift_19 trivial ?_
      exact PM.mk (by unfold f_shift; rw [if_neg (fun q => hpj q.2)]) rfl hw
  · by_cases hpj : 0 ≤ d.toInt ∧ d.toInt < s_cn s
    · obtain ⟨j, rfl, ej, lj⟩ := i_nat hpj.1
      have hj : j < s_cn s := by omega
      have hj4 : j < 4 := by omega
      have hbj := hI.2.2.2.1 j hj4
      refine MC.of (by decide +kernel) (Nat.le_of_ble_eq_true rfl) (by dsimp only [linit, Nat.reduceSub, List.reduceReplicate] <;> rfl) ?_
      refine EV.aload_n (pc := 0) dX5_shift_0 rfl ?_
      refine EV.iload_n (pc := 1) dX5_shift_1 rfl ?_
      refine EV.callVR1 (pc := 2) (M' := M_X5_isComb) dX5_shift_2 lkX5_117 okV_X5_isComb (n_isComb _ hw hcn) (by decide) rfl rfl (Nat.le_of_ble_eq_true rfl) (by decide) hw.h34 ?_
      refine EV.if_eq (pc := 5) (tgt := 16) dX5_shift_5 (by decide) (fun _ => ?_) (fun q => absurd (b2i_0 hpk).symm q)
      refine EV.ldc2 (pc := 16) dX5_shift_16 kcX5_158 ?_
      refine EV.lret (pc := 19) dX5_shift_19 trivial ?_
      exact PM.mk (by unfold f_shift; rw [if_neg (fun q => hpk q.1)]) rfl hw
    · refine MC.of (by decide +kernel) (Nat.le_of_ble_eq_true rfl) (by dsimp only [linit, Nat.reduceSub, List.reduceReplicate] <;> rfl) ?_
      refine EV.aload_n (pc := 0) dX5_shift_0 rfl ?_
      refine EV.iload_n (pc := 1) dX5_shift_1 rfl ?_
      refine EV.callVR1 (pc := 2) (M' := M_X5_isComb) dX5_shift_2 lkX5_117 okV_X5_isComb (n_isComb _ hw hcn) (by decide) rfl rfl (Nat.le_of_ble_eq_true rfl) (by decide) hw.h34 ?_
      refine EV.if_eq (pc := 5) (tgt := 16) dX5_shift_5 (by decide) (fun _ => ?_) (fun q => absurd (b2i_0 hpk).symm q)
      refine EV.ldc2 (pc := 16) dX5_shift_16 kcX5_158 ?_
      refine EV.lret (pc := 19) dX5_shift_19 trivial ?_
      exact PM.mk (by unfold f_shift; rw [if_neg (fun q => hpk q.1)]) rfl hw

set_option maxHeartbeats 4000000 in
set_option maxRecDepth 100000 in
theorem l_nbest_step {G : eG} {ad : Nat → Nat} {h : Nat → va_E} {s : St} {z : Zm} {hm : Nat → va_E} (hw : MW G ad s z hm h) (k j : Nat) (hk4 : k < 4) (hj4 : j < 4) (hcok : s_co s k ≤ 20) (hcoj : s_co s j ≤ 20) (post : eP) (a : Int32 × Int64) (u e : Int) (hu : 1 ≤ u ∧ u ≤ 8) (he : e = -1 ∨ e = 1) (kx : ∀ l, EV G M_X5_best cX5_best none ad 54 post 64 [some (.ref (ad 34)), some (.int (nI k)), some (.int (nI j)), some (.int (bsS (fun x => csN (s_nm s k) (s_nm s j) (s_co s j) x (s_co s k)) a (e * u)).1), some (.long (bsS (fun x => csN (s_nm s k) (s_nm s j) (s_co s j) x (s_co s k)) a (e * u)).2), none, some (.int (iI u)), some (.int (iI (e + 2))), l, none] [] h) : ∀ l, EV G M_X5_best cX5_best none ad 54 post 64 [some (.ref (ad 34)), some (.int (nI k)), some (.int (nI j)), some (.int a.1), some (.long a.2), none, some (.int (iI u)), some (.int (iI e)), l, none] [] h := by
  intro l
  have hd : -8 ≤ e * u ∧ e * u ≤ 8 := by rcases he with rfl | rfl <;> omega
  refine EV.iload (pc := 64) dX5_best_64 rfl ?_
  refine EV.iconst (pc := 66) (v := 1) dX5_best_66 (by decide) ?_
  refine EV.icmp_gt (pc := 67) (tgt := 107) dX5_best_67 (by decide) (fun q => absurd q (by rw [show (1 : Int32) = iI 1 from iI_lit 1, iI_lt (by omega) (by omega) (by omega) (by omega)]; omega)) (fun _ => ?_)
  refine EV.aload_n (pc := 70) dX5_best_70 rfl ?_
  refine EV.iload_n (pc := 71) dX5_best_71 rfl ?_
  refine EV.iload_n (pc := 72) dX5_best_72 rfl ?_
  refine EV.iload (pc := 73) dX5_best_73 rfl ?_
  refine EV.iload (pc := 75) dX5_best_75 rfl ?_
  refine EV.imul (pc := 77) dX5_best_77 ?_
  refine EV.topi (y := iI (e * u)) (iI_mul _ _) ?_
  refine EV.callVR1 (pc := 78) (M' := M_X5_shiftOf) dX5_best_78 lkX5_224 okV_X5_shiftOf (n_shiftOf k j (iI (e * u)) hw hk4 hj4 hcok hcoj (by rw [iI_toInt (by omega) (by omega)]; omega)) (by decide) rfl rfl (Nat.le_of_ble_eq_true rfl) (by decide) hw.h34 ?_
  refine EV.topl (y := (fun x => csN (s_nm s k) (s_nm s j) (s_co s j) x (s_co s k)) (e * u)) (by rw [iI_toInt (by omega) (by omega)]) ?_
  refine EV.lstore (pc := 81) dX5_best_81 (by decide) (by dsimp only [lst2, lno, lk] <;> rfl) ?_
  refine EV.lload (pc := 83) dX5_best_83 rfl ?_
  refine EV.lload (pc := 85) dX5_best_85 rfl ?_
  refine EV.lcmp_le (pc := 87) (tgt := 101) dX5_best_87 dX5_best_88 (by decide) (fun c87 => ?_) (fun c87 => ?_)
  · refine EV.iinc (pc := 101) dX5_best_101 (by decide) rfl (show iI e + Int32.ofInt 2 = iI (e + 2) from by rw [show Int32.ofInt 2 = iI 2 from rfl, iI_add]) (by dsimp only [lst1, lk] <;> rfl) ?_
    refine EV.goto (pc := 104) (tgt := 64) dX5_best_104 (by decide) ?_
    rw [Int64.le_iff_toInt_le] at c87
    refine EV.eq rfl ?_ rfl rfl (kx (some (.long (csN (s_nm s k) (s_nm s j) (s_co s j) (e * u) (s_co s k)))))
    unfold bsS
    dsimp only
    first | (rw [if_pos (by omega)] <;> rfl) | (rw [if_neg (by omega)] <;> rfl)
  · refine EV.lload (pc := 91) dX5_best_91 rfl ?_
    refine EV.lstore (pc := 93) dX5_best_93 (by decide) (by dsimp only [lst2, lno, lk] <;> rfl) ?_
    refine EV.iload (pc := 95) dX5_best_95 rfl ?_
    refine EV.iload (pc := 97) dX5_best_97 rfl ?_
    refine EV.imul (pc := 99) dX5_best_99 ?_
    refine EV.topi (y := iI (e * u)) (iI_mul _ _) ?_
    refine EV.istore_n (pc := 100) 3 dX5_best_100 rfl (by decide) (by dsimp only [lst1, lk] <;> rfl) ?_
    refine EV.iinc (pc := 101) dX5_best_101 (by decide) rfl (show iI e + Int32.ofInt 2 = iI (e + 2) from by rw [show Int32.ofInt 2 = iI 2 from rfl, iI_add]) (by dsimp only [lst1, lk] <;> rfl) ?_
    refine EV.goto (pc := 104) (tgt := 64) dX5_best_104 (by decide) ?_
    rw [Int64.le_iff_toInt_le] at c87
    refine EV.eq rfl ?_ rfl rfl (kx (some (.long (csN (s_nm s k) (s_nm s j) (s_co s j) (e * u) (s_co s k)))))
    unfold bsS
    dsimp only
    first | (rw [if_pos (by omega)] <;> rfl) | (rw [if_neg (by omega)] <;> rfl)

set_option maxHeartbeats 4000000 in
set_option maxRecDepth 100000 in
theorem l_nbest {G : eG} {ad : Nat → Nat} {h : Nat → va_E} {s : St} {z : Zm} {hm : Nat → va_E} (hw : MW G ad s z hm h) (k j : Nat) (hk4 : k < 4) (hj4 : j < 4) (hcok : s_co s k ≤ 20) (hcoj : s_co s j ≤ 20) : ∀ (n u : Nat) (v l : Option Value), u + n = 8 → EV G M_X5_best cX5_best none ad 54 (IS (some (.int (bsN (fun x => csN (s_nm s k) (s_nm s j) (s_co s j) x (s_co s k)) 8).1)) h) 54 [some (.ref (ad 34)), some (.int (nI k)), some (.int (nI j)), some (.int (bsN (fun x => csN (s_nm s k) (s_nm s j) (s_co s j) x (s_co s k)) u).1), some (.long (bsN (fun x => csN (s_nm s k) (s_nm s j) (s_co s j) x (s_co s k)) u).2), none, some (.int (iI ((u : Int) + 1))), v, l, none] [] h := by
  intro n
  induction n with
  | zero =>
    intro u v l hu
    have e : u = 8 := by omega
    subst e
    refine EV.iload (pc := 54) dX5_best_54 rfl ?_
    refine EV.bipush (pc := 56) (v := 8) dX5_best_56 (by decide) ?_
    refine EV.icmp_gt (pc := 58) (tgt := 113) dX5_best_58 (by decide) (fun _ => ?_) (fun q => absurd (by rw [Int32.lt_iff_toInt_lt, i_l8, iI_toInt (by omega) (by omega)]; omega) q)
    refine EV.iload_n (pc := 113) dX5_best_113 rfl ?_
    exact EV.iret (pc := 114) dX5_best_114 trivial ⟨rfl, rfl⟩
  | succ n ih =>
    intro u v l hu
    refine EV.iload (pc := 54) dX5_best_54 rfl ?_
    refine EV.bipush (pc := 56) (v := 8) dX5_best_56 (by decide) ?_
    refine EV.icmp_gt (pc := 58) (tgt := 113) dX5_best_58 (by decide) (fun q => absurd q (by rw [Int32.lt_iff_toInt_lt, i_l8, iI_toInt (by omega) (by omega)]; omega)) (fun _ => ?_)
    refine EV.iconst (pc := 61) (v := -1) dX5_best_61 (by decide) ?_
    refine EV.topi (y := iI (-1)) rfl ?_
    refine EV.istore (pc := 62) dX5_best_62 (by decide) (by dsimp only [lst1, lk] <;> rfl) ?_
    refine l_nbest_step hw k j hk4 hj4 hcok hcoj _ (bsN (fun x => csN (s_nm s k) (s_nm s j) (s_co s j) x (s_co s k)) u) ((u : Int) + 1) (-1) (by omega) (Or.inl rfl) (fun l => ?_) _
    refine EV.eq (lv' := [some (.ref (ad 34)), some (.int (nI k)), some (.int (nI j)), some (.int (bsS (fun x => csN (s_nm s k) (s_nm s j) (s_co s j) x (s_co s k)) (bsN (fun x => csN (s_nm s k) (s_nm s j) (s_co s j) x (s_co s k)) u) (-((u : Int) + 1))).1), some (.long (bsS (fun x => csN (s_nm s k) (s_nm s j) (s_co s j) x (s_co s k)) (bsN (fun x => csN (s_nm s k) (s_nm s j) (s_co s j) x (s_co s k)) u) (-((u : Int) + 1))).2), none, some (.int (iI ((u : Int) + 1))), some (.int (iI 1)), l, none]) rfl (by rw [show (-1 : Int) * ((u : Int) + 1) = -((u : Int) + 1) by omega] <;> rfl) rfl rfl ?_
    refine l_nbest_step hw k j hk4 hj4 hcok hcoj _ _ ((u : Int) + 1) 1 (by omega) (Or.inr rfl) (fun l => ?_) _
    rw [Int.one_mul]
    refine EV.iload (pc := 64) dX5_best_64 rfl ?_
    refine EV.iconst (pc := 66) (v := 1) dX5_best_66 (by decide) ?_
    refine EV.icmp_gt (pc := 67) (tgt := 107) dX5_best_67 (by decide) (fun _ => ?_) (fun q => absurd (by decide +kernel) q)
    refine EV.iinc (pc := 107) dX5_best_107 (by decide) rfl (show iI ((u : Int) + 1) + Int32.ofInt 1 = iI (((u + 1 : Nat) : Int) + 1) from by rw [show Int32.ofInt 1 = iI 1 from rfl, iI_add]; rfl) (by dsimp only [lst1, lk] <;> rfl) ?_
    refine EV.goto (pc := 110) (tgt := 54) dX5_best_110 (by decide) ?_
    exact ih (u + 1) _ _ (by omega)

set_option maxHeartbeats 4000000 in
set_option maxRecDepth 100000 in
theorem q_best {G : eG} {ad : Nat → Nat} {h : Nat → va_E} {s : St} {z : Zm} {hm : Nat → va_E} (hw : MW G ad s z hm h) (hI : Inv s) (c d : Int32)  : MC G M_X5_best cX5_best ad 54 [.ref (ad 34), .int c, .int d] h (PM G ad hm (.int (f_best s c d)) s) := by
  have hcn : s_cn s ≤ 4 := hI.2.2.1
  by_cases hpk : 0 ≤ c.toInt ∧ c.toInt < s_cn s
  · obtain ⟨k, rfl, ek, lk⟩ := i_nat hpk.1
    have hk : k < s_cn s := by omega
    have hk4 : k < 4 := by omega
    have hbk := hI.2.2.2.1 k hk4
    by_cases hpj : 0 ≤ d.toInt ∧ d.toInt < s_cn s
    · obtain ⟨j, rfl, ej, lj⟩ := i_nat hpj.1
      have hj : j < s_cn s := by omega
      have hj4 : j < 4 := by omega
      have hbj := hI.2.2.2.1 j hj4
      have en1 := nI_t (show s_co s k < 2147483648 by omega)
      have en2 := nI_t (show s_co s j < 2147483648 by omega)
      have q0 : ∀ {pc : Nat} {lv : List (Option Value)} {st : List Value}, EV G M_X5_best cX5_best none ad 54 (IS (some (.int (bsN (fun x => csN (s_nm s k) (s_nm s j) (s_co s j) x (s_co s k)) 8).1)) h) pc lv st h → EV G M_X5_best cX5_best none ad 54 (PM G ad hm (.int (bsN (fun x => csN (s_nm s k) (s_nm s j) (s_co s j) x (s_co s k)) 8).1) s) pc lv st h := fun q => EV.mono q (fun v h2 r => ⟨r.1, z, by rw [r.2]; exact hw⟩)
      refine MC.of (by decide +kernel) (Nat.le_of_ble_eq_true rfl) (by dsimp only [linit, Nat.reduceSub, List.reduceReplicate] <;> rfl) ?_
      refine EV.aload_n (pc := 0) dX5_best_0 rfl ?_
      refine EV.iload_n (pc := 1) dX5_best_1 rfl ?_
      refine EV.callVR1 (pc := 2) (M' := M_X5_isComb) dX5_best_2 lkX5_117 okV_X5_isComb (n_isComb _ hw hcn) (by decide) rfl rfl (Nat.le_of_ble_eq_true rfl) (by decide) hw.h34 ?_
      refine EV.if_eq (pc := 5) (tgt := 16) dX5_best_5 (by decide) (fun q => absurd q (fun q => b2i_F q hpk)) (fun _ => ?_)
      refine EV.aload_n (pc := 8) dX5_best_8 rfl ?_
      refine EV.iload_n (pc := 9) dX5_best_9 rfl ?_
      refine EV.callVR1 (pc := 10) (M' := M_X5_isComb) dX5_best_10 lkX5_117 okV_X5_isComb (n_isComb _ hw hcn) (by decide) rfl rfl (Nat.le_of_ble_eq_true rfl) (by decide) hw.h34 ?_
      refine EV.if_ne (pc := 13) (tgt := 19) dX5_best_13 (by decide) (fun _ => ?_) (fun q => absurd q (fun q => b2i_F q hpj))
      refine EV.aload_n (pc := 19) dX5_best_19 rfl ?_
      refine EV.getf (pc := 20) dX5_best_20 fgX5_38 (by decide) hw.h34 rfl ?_
      refine EV.iload_n (pc := 23) dX5_best_23 rfl ?_
      refine EV.iald (pc := 24) dX5_best_24 (by decide) hw.h44 (vp_in_nI (show k < 4 by omega) (by omega)) ?_
      refine EV.topi (y := nI (s_co s k)) (by rw [nI_clamp (by omega)]) ?_
      refine EV.if_eq (pc := 25) (tgt := 37) dX5_best_25 (by decide) (fun c25 => ?_) (fun c25 => ?_)
      · try simp only [Int32.lt_iff_toInt_lt, Int32.le_iff_toInt_le, ← Int32.toInt_inj, Int64.lt_iff_toInt_lt, Int64.le_iff_toInt_le, ← Int64.toInt_inj, Int32.toInt_toInt64, i_l0, i_l1, i_l2, i_l5, i_l19, i_m1, j_l0, j_l1, j_l5, i_l3, i_l4, i_l6, i_l7, i_l8, i_l9, i_l12, i_l16, i_l20, i_l60, i_l64, i_l100, i_l200, i_l304, i_l2000, i_l10000, i_l100000, i_l1000000, i_n1000000, i_n19, i_n101, en1, en2] at c25
        refine EV.bipush (pc := 37) (v := -101) dX5_best_37 (by decide) ?_
        refine EV.iret (pc := 39) dX5_best_39 trivial ?_
        exact PM.mk (by unfold f_best; rw [if_pos ⟨hpk, hpj⟩, nI_tn (by omega), nI_tn (by omega), if_pos (by omega)]) rfl hw
      · try simp only [Int32.lt_iff_toInt_lt, Int32.le_iff_toInt_le, ← Int32.toInt_inj, Int64.lt_iff_toInt_lt, Int64.le_iff_toInt_le, ← Int64.toInt_inj, Int32.toInt_toInt64, i_l0, i_l1, i_l2, i_l5, i_l19, i_m1, j_l0, j_l1, j_l5, i_l3, i_l4, i_l6, i_l7, i_l8, i_l9, i_l12, i_l16, i_l20, i_l60, i_l64, i_l100, i_l200, i_l304, i_l2000, i_l10000, i_l100000, i_l1000000, i_n1000000, i_n19, i_n101, en1, en2] at c25
        refine EV.aload_n (pc := 28) dX5_best_28 rfl ?_
        refine EV.getf (pc := 29) dX5_best_29 fgX5_38 (by decide) hw.h34 rfl ?_
        refine EV.iload_n (pc := 32) dX5_best_32 rfl ?_
        refine EV.iald (pc := 33) dX5_best_33 (by decide) hw.h44 (vp_in_nI (show j < 4 by omega) (by omega)) ?_
        refine EV.topi (y := nI (s_co s j)) (by rw [nI_clamp (by omega)]) ?_
        refine EV.if_ne (pc := 34) (tgt := 40) dX5_best_34 (by decide) (fun c34 => ?_) (fun c34 => ?_)
        · try simp only [Int32.lt_iff_toInt_lt, Int32.le_iff_toInt_le, ← Int32.toInt_inj, Int64.lt_iff_toInt_lt, Int64.le_iff_toInt_le, ← Int64.toInt_inj, Int32.toInt_toInt64, i_l0, i_l1, i_l2, i_l5, i_l19, i_m1, j_l0, j_l1, j_l5, i_l3, i_l4, i_l6, i_l7, i_l8, i_l9, i_l12, i_l16, i_l20, i_l60, i_l64, i_l100, i_l200, i_l304, i_l2000, i_l10000, i_l100000, i_l1000000, i_n1000000, i_n19, i_n101, en1, en2] at c34
          refine EV.iconst (pc := 40) (v := 0) dX5_best_40 (by decide) ?_
          refine EV.istore_n (pc := 41) 3 dX5_best_41 rfl (by decide) (by dsimp only [lst1, lk] <;> rfl) ?_
          refine EV.aload_n (pc := 42) dX5_best_42 rfl ?_
          refine EV.iload_n (pc := 43) dX5_best_43 rfl ?_
          refine EV.iload_n (pc := 44) dX5_best_44 rfl ?_
          refine EV.iconst (pc := 45) (v := 0) dX5_best_45 (by decide) ?_
          refine EV.callVR1 (pc := 46) (M' := M_X5_shiftOf) dX5_best_46 lkX5_224 okV_X5_shiftOf (n_shiftOf k j 0 hw hk4 hj4 hbk.2.2.2 hbj.2.2.2 (by decide +kernel)) (by decide) rfl rfl (Nat.le_of_ble_eq_true rfl) (by decide) hw.h34 ?_
          refine EV.lstore (pc := 49) dX5_best_49 (by decide) (by dsimp only [lst2, lno, lk] <;> rfl) ?_
          refine EV.iconst (pc := 51) (v := 1) dX5_best_51 (by decide) ?_
          refine EV.istore (pc := 52) dX5_best_52 (by decide) (by dsimp only [lst1, lk] <;> rfl) ?_
          have e0 : f_best s (nI k) (nI j) = (bsN (fun x => csN (s_nm s k) (s_nm s j) (s_co s j) x (s_co s k)) 8).1 := by unfold f_best; rw [if_pos ⟨hpk, hpj⟩, nI_tn (by omega), nI_tn (by omega), if_neg (by omega)]
          rw [e0]
          exact q0 (l_nbest hw k j hk4 hj4 hbk.2.2.2 hbj.2.2.2 8 0 none none rfl)
        · try simp only [Int32.lt_iff_toInt_lt, Int32.le_iff_toInt_le, ← Int32.toInt_inj, Int64.lt_iff_toInt_lt, Int64.le_iff_toInt_le, ← Int64.toInt_inj, Int32.toInt_toInt64, i_l0, i_l1, i_l2, i_l5, i_l19, i_m1, j_l0, j_l1, j_l5, i_l3, i_l4, i_l6, i_l7, i_l8, i_l9, i_l12, i_l16, i_l20, i_l60, i_l64, i_l100, i_l200, i_l304, i_l2000, i_l10000, i_l100000, i_l1000000, i_n1000000, i_n19, i_n101, en1, en2] at c34
          refine EV.bipush (pc := 37) (v := -101) dX5_best_37 (by decide) ?_
          refine EV.iret (pc := 39) dX5_best_39 trivial ?_
          exact PM.mk (by unfold f_best; rw [if_pos ⟨hpk, hpj⟩, nI_tn (by omega), nI_tn (by omega), if_pos (by omega)]) rfl hw
    · refine MC.of (by decide +kernel) (Nat.le_of_ble_eq_true rfl) (by dsimp only [linit, Nat.reduceSub, List.reduceReplicate] <;> rfl) ?_
      refine EV.aload_n (pc := 0) dX5_best_0 rfl ?_
      refine EV.iload_n (pc := 1) dX5_best_1 rfl ?_
      refine EV.callVR1 (pc := 2) (M' := M_X5_isComb) dX5_best_2 lkX5_117 okV_X5_isComb (n_isComb _ hw hcn) (by decide) rfl rfl (Nat.le_of_ble_eq_true rfl) (by decide) hw.h34 ?_
      refine EV.if_eq (pc := 5) (tgt := 16) dX5_best_5 (by decide) (fun q => absurd q (fun q => b2i_F q hpk)) (fun _ => ?_)
      refine EV.aload_n (pc := 8) dX5_best_8 rfl ?_
      refine EV.iload_n (pc := 9) dX5_best_9 rfl ?_
      refine EV.callVR1 (pc := 10) (M' := M_X5_isComb) dX5_best_10 lkX5_117 okV_X5_isComb (n_isComb _ hw hcn) (by decide) rfl rfl (Nat.le_of_ble_eq_true rfl) (by decide) hw.h34 ?_
      refine EV.if_ne (pc := 13) (tgt := 19) dX5_best_13 (by decide) (fun q => absurd (b2i_0 hpj).symm q) (fun _ => ?_)
      refine EV.bipush (pc := 16) (v := -100) dX5_best_16 (by decide) ?_
      refine EV.iret (pc := 18) dX5_best_18 trivial ?_
      exact PM.mk (by unfold f_best; rw [if_neg (fun q => hpj q.2)]) rfl hw
  · by_cases hpj : 0 ≤ d.toInt ∧ d.toInt < s_cn s
    · obtain ⟨j, rfl, ej, lj⟩ := i_nat hpj.1
      have hj : j < s_cn s := by omega
      have hj4 : j < 4 := by omega
      have hbj := hI.2.2.2.1 j hj4
      refine MC.of (by decide +kernel) (Nat.le_of_ble_eq_true rfl) (by dsimp only [linit, Nat.reduceSub, List.reduceReplicate] <;> rfl) ?_
      refine EV.aload_n (pc := 0) dX5_best_0 rfl ?_
      refine EV.iload_n (pc := 1) dX5_best_1 rfl ?_
      refine EV.callVR1 (pc := 2) (M' := M_X5_isComb) dX5_best_2 lkX5_117 okV_X5_isComb (n_isComb _ hw hcn) (by decide) rfl rfl (Nat.le_of_ble_eq_true rfl) (by decide) hw.h34 ?_
      refine EV.if_eq (pc := 5) (tgt := 16) dX5_best_5 (by decide) (fun _ => ?_) (fun q => absurd (b2i_0 hpk).symm q)
      refine EV.bipush (pc := 16) (v := -100) dX5_best_16 (by decide) ?_
      refine EV.iret (pc := 18) dX5_best_18 trivial ?_
      exact PM.mk (by unfold f_best; rw [if_neg (fun q => hpk q.1)]) rfl hw
    · refine MC.of (by decide +kernel) (Nat.le_of_ble_eq_true rfl) (by dsimp only [linit, Nat.reduceSub, List.reduceReplicate] <;> rfl) ?_
      refine EV.aload_n (pc := 0) dX5_best_0 rfl ?_
      refine EV.iload_n (pc := 1) dX5_best_1 rfl ?_
      refine EV.callVR1 (pc := 2) (M' := M_X5_isComb) dX5_best_2 lkX5_117 okV_X5_isComb (n_isComb _ hw hcn) (by decide) rfl rfl (Nat.le_of_ble_eq_true rfl) (by decide) hw.h34 ?_
      refine EV.if_eq (pc := 5) (tgt := 16) dX5_best_5 (by decide) (fun _ => ?_) (fun q => absurd (b2i_0 hpk).symm q)
      refine EV.bipush (pc := 16) (v := -100) dX5_best_16 (by decide) ?_
      refine EV.iret (pc := 18) dX5_best_18 trivial ?_
      exact PM.mk (by unfold f_best; rw [if_neg (fun q => hpk q.1)]) rfl hw

theorem cnt_y {p : Nat → Bool} {n : Nat} (h : p n = true) : cnt p (n + 1) = cnt p n + 1 := by
  simp only [cnt]
  rw [if_pos h]
theorem cnt_n {p : Nat → Bool} {n : Nat} (h : p n = false) : cnt p (n + 1) = cnt p n := by
  simp only [cnt]
  rw [if_neg (by rw [h]; simp)]
  rfl

set_option maxHeartbeats 4000000 in
set_option maxRecDepth 100000 in
theorem l_ncnt0 {G : eG} {ad : Nat → Nat} {h : Nat → va_E} {s : St} {z : Zm} {hm : Nat → va_E} (hw : MW G ad s z hm h) (w0 : Int32) (hcn : s_cn s ≤ 4) : ∀ (n i : Nat), i + n = 6 → EV G M_X5_count cX5_count none ad 54 (IS (some (.int (nI (cnt (fun p => !(s_lost s p)) (6))))) h) 42 [some (.ref (ad 34)), some (.int w0), some (.int (nI (cnt (fun p => !(s_lost s p)) i))), some (.int (nI i))] [] h := by
  intro n
  induction n with
  | zero =>
    intro i hi
    have e : i = 6 := by omega
    subst e
    refine EV.iload_n (pc := 42) dX5_count_42 rfl ?_
    refine EV.bipush (pc := 43) (v := 6) dX5_count_43 (by decide) ?_
    refine EV.icmp_ge (pc := 45) (tgt := 71) dX5_count_45 (by decide) (fun _ => ?_) (fun q => absurd ((nI_leI (a := (6)) (b := (6)) (by omega) (by omega)).mpr (Nat.le_refl _)) q)
    refine EV.iload_n (pc := 71) dX5_count_71 rfl ?_
    exact EV.iret (pc := 72) dX5_count_72 trivial ⟨rfl, rfl⟩
  | succ n ih =>
    intro i hi
    have hi2 : i < 6 := by omega
    refine EV.iload_n (pc := 42) dX5_count_42 rfl ?_
    refine EV.bipush (pc := 43) (v := 6) dX5_count_43 (by decide) ?_
    refine EV.icmp_ge (pc := 45) (tgt := 71) dX5_count_45 (by decide) (fun q => absurd q (fun z => absurd ((nI_leI (a := (6)) (b := i) (by omega) (by omega)).mp z) (by omega))) (fun _ => ?_)
    refine EV.iload_n (pc := 48) dX5_count_48 rfl ?_
    refine EV.aload_n (pc := 49) dX5_count_49 rfl ?_
    refine EV.getf (pc := 50) dX5_count_50 fgX5_7 (by decide) hw.h34 rfl ?_
    refine EV.iload_n (pc := 53) dX5_count_53 rfl ?_
    refine EV.zald (pc := 54) dX5_count_54 (by decide) hw.h35 (vp_in_nI (show i < 6 by omega) (by omega)) ?_
    refine EV.topi (y := b2i ((fun p => !(s_lost s p)) i)) (by rw [nI_clamp (by omega)]) ?_
    refine EV.if_eq (pc := 55) (tgt := 62) dX5_count_55 (by decide) (fun c55 => ?_) (fun c55 => ?_)
    · replace c55 := b2i_eq c55
      refine EV.iconst (pc := 62) (v := 0) dX5_count_62 (by decide) ?_
      refine EV.iadd (pc := 63) dX5_count_63 ?_
      refine EV.istore_n (pc := 64) 2 dX5_count_64 rfl (by decide) (by dsimp only [lst1, lk] <;> rfl) ?_
      refine EV.iinc (pc := 65) dX5_count_65 (by decide) rfl (by first | exact nI_inc _ | rfl) (by dsimp only [lst1, lk] <;> rfl) ?_
      refine EV.goto (pc := 68) (tgt := 42) dX5_count_68 (by decide) ?_
      refine EV.eq rfl ?_ rfl rfl (ih (i + 1) (by omega))
      first | (rw [cnt_y (p := (fun p => !(s_lost s p))) c55, ← nI_p1 (cnt (fun p => !(s_lost s p)) i)] <;> rfl) | (rw [cnt_n (p := (fun p => !(s_lost s p))) c55, Int32.add_zero] <;> rfl)
    · replace c55 := b2i_ne c55
      refine EV.iconst (pc := 58) (v := 1) dX5_count_58 (by decide) ?_
      refine EV.goto (pc := 59) (tgt := 63) dX5_count_59 (by decide) ?_
      refine EV.iadd (pc := 63) dX5_count_63 ?_
      refine EV.istore_n (pc := 64) 2 dX5_count_64 rfl (by decide) (by dsimp only [lst1, lk] <;> rfl) ?_
      refine EV.iinc (pc := 65) dX5_count_65 (by decide) rfl (by first | exact nI_inc _ | rfl) (by dsimp only [lst1, lk] <;> rfl) ?_
      refine EV.goto (pc := 68) (tgt := 42) dX5_count_68 (by decide) ?_
      refine EV.eq rfl ?_ rfl rfl (ih (i + 1) (by omega))
      first | (rw [cnt_y (p := (fun p => !(s_lost s p))) c55, ← nI_p1 (cnt (fun p => !(s_lost s p)) i)] <;> rfl) | (rw [cnt_n (p := (fun p => !(s_lost s p))) c55, Int32.add_zero] <;> rfl)

set_option maxHeartbeats 4000000 in
set_option maxRecDepth 100000 in
theorem l_ncnt3 {G : eG} {ad : Nat → Nat} {h : Nat → va_E} {s : St} {z : Zm} {hm : Nat → va_E} (hw : MW G ad s z hm h) (w0 : Int32) (hcn : s_cn s ≤ 4) : ∀ (n i : Nat), i + n = 400 → EV G M_X5_count cX5_count none ad 54 (IS (some (.int (nI (cnt (s_bad s) (400))))) h) 85 [some (.ref (ad 34)), some (.int w0), some (.int (nI (cnt (s_bad s) i))), some (.int (nI i))] [] h := by
  intro n
  induction n with
  | zero =>
    intro i hi
    have e : i = 400 := by omega
    subst e
    refine EV.iload_n (pc := 85) dX5_count_85 rfl ?_
    refine EV.sipush (pc := 86) (v := 400) dX5_count_86 (by decide) ?_
    refine EV.icmp_ge (pc := 89) (tgt := 115) dX5_count_89 (by decide) (fun _ => ?_) (fun q => absurd ((nI_leI (a := (400)) (b := (400)) (by omega) (by omega)).mpr (Nat.le_refl _)) q)
    refine EV.iload_n (pc := 115) dX5_count_115 rfl ?_
    exact EV.iret (pc := 116) dX5_count_116 trivial ⟨rfl, rfl⟩
  | succ n ih =>
    intro i hi
    have hi2 : i < 400 := by omega
    refine EV.iload_n (pc := 85) dX5_count_85 rfl ?_
    refine EV.sipush (pc := 86) (v := 400) dX5_count_86 (by decide) ?_
    refine EV.icmp_ge (pc := 89) (tgt := 115) dX5_count_89 (by decide) (fun q => absurd q (fun z => absurd ((nI_leI (a := (400)) (b := i) (by omega) (by omega)).mp z) (by omega))) (fun _ => ?_)
    refine EV.iload_n (pc := 92) dX5_count_92 rfl ?_
    refine EV.aload_n (pc := 93) dX5_count_93 rfl ?_
    refine EV.getf (pc := 94) dX5_count_94 fgX5_26 (by decide) hw.h34 rfl ?_
    refine EV.iload_n (pc := 97) dX5_count_97 rfl ?_
    refine EV.zald (pc := 98) dX5_count_98 (by decide) hw.h40 (vp_in_nI (show i < 400 by omega) (by omega)) ?_
    refine EV.topi (y := b2i ((s_bad s) i)) (by rw [nI_clamp (by omega)]) ?_
    refine EV.if_eq (pc := 99) (tgt := 106) dX5_count_99 (by decide) (fun c99 => ?_) (fun c99 => ?_)
    · replace c99 := b2i_eq c99
      refine EV.iconst (pc := 106) (v := 0) dX5_count_106 (by decide) ?_
      refine EV.iadd (pc := 107) dX5_count_107 ?_
      refine EV.istore_n (pc := 108) 2 dX5_count_108 rfl (by decide) (by dsimp only [lst1, lk] <;> rfl) ?_
      refine EV.iinc (pc := 109) dX5_count_109 (by decide) rfl (by first | exact nI_inc _ | rfl) (by dsimp only [lst1, lk] <;> rfl) ?_
      refine EV.goto (pc := 112) (tgt := 85) dX5_count_112 (by decide) ?_
      refine EV.eq rfl ?_ rfl rfl (ih (i + 1) (by omega))
      first | (rw [cnt_y (p := (s_bad s)) c99, ← nI_p1 (cnt (s_bad s) i)] <;> rfl) | (rw [cnt_n (p := (s_bad s)) c99, Int32.add_zero] <;> rfl)
    · replace c99 := b2i_ne c99
      refine EV.iconst (pc := 102) (v := 1) dX5_count_102 (by decide) ?_
      refine EV.goto (pc := 103) (tgt := 107) dX5_count_103 (by decide) ?_
      refine EV.iadd (pc := 107) dX5_count_107 ?_
      refine EV.istore_n (pc := 108) 2 dX5_count_108 rfl (by decide) (by dsimp only [lst1, lk] <;> rfl) ?_
      refine EV.iinc (pc := 109) dX5_count_109 (by decide) rfl (by first | exact nI_inc _ | rfl) (by dsimp only [lst1, lk] <;> rfl) ?_
      refine EV.goto (pc := 112) (tgt := 85) dX5_count_112 (by decide) ?_
      refine EV.eq rfl ?_ rfl rfl (ih (i + 1) (by omega))
      first | (rw [cnt_y (p := (s_bad s)) c99, ← nI_p1 (cnt (s_bad s) i)] <;> rfl) | (rw [cnt_n (p := (s_bad s)) c99, Int32.add_zero] <;> rfl)

set_option maxHeartbeats 4000000 in
set_option maxRecDepth 100000 in
theorem l_ncnt4 {G : eG} {ad : Nat → Nat} {h : Nat → va_E} {s : St} {z : Zm} {hm : Nat → va_E} (hw : MW G ad s z hm h) (w0 : Int32) (hcn : s_cn s ≤ 4) : ∀ (n i : Nat), i + n = s_cn s → EV G M_X5_count cX5_count none ad 54 (IS (some (.int (nI (cnt (s_li s) (s_cn s))))) h) 119 [some (.ref (ad 34)), some (.int w0), some (.int (nI (cnt (s_li s) i))), some (.int (nI i))] [] h := by
  intro n
  induction n with
  | zero =>
    intro i hi
    have e : i = s_cn s := by omega
    subst e
    refine EV.iload_n (pc := 119) dX5_count_119 rfl ?_
    refine EV.aload_n (pc := 120) dX5_count_120 rfl ?_
    refine EV.getf (pc := 121) dX5_count_121 fgX5_79 (by decide) hw.h34 rfl ?_
    refine EV.icmp_ge (pc := 124) (tgt := 150) dX5_count_124 (by decide) (fun _ => ?_) (fun q => absurd ((nI_leI (a := (s_cn s)) (b := (s_cn s)) (by omega) (by omega)).mpr (Nat.le_refl _)) q)
    refine EV.iload_n (pc := 150) dX5_count_150 rfl ?_
    exact EV.iret (pc := 151) dX5_count_151 trivial ⟨rfl, rfl⟩
  | succ n ih =>
    intro i hi
    have hi2 : i < s_cn s := by omega
    refine EV.iload_n (pc := 119) dX5_count_119 rfl ?_
    refine EV.aload_n (pc := 120) dX5_count_120 rfl ?_
    refine EV.getf (pc := 121) dX5_count_121 fgX5_79 (by decide) hw.h34 rfl ?_
    refine EV.icmp_ge (pc := 124) (tgt := 150) dX5_count_124 (by decide) (fun q => absurd q (fun z => absurd ((nI_leI (a := (s_cn s)) (b := i) (by omega) (by omega)).mp z) (by omega))) (fun _ => ?_)
    refine EV.iload_n (pc := 127) dX5_count_127 rfl ?_
    refine EV.aload_n (pc := 128) dX5_count_128 rfl ?_
    refine EV.getf (pc := 129) dX5_count_129 fgX5_45 (by decide) hw.h34 rfl ?_
    refine EV.iload_n (pc := 132) dX5_count_132 rfl ?_
    refine EV.zald (pc := 133) dX5_count_133 (by decide) hw.h46 (vp_in_nI (show i < 4 by omega) (by omega)) ?_
    refine EV.topi (y := b2i ((s_li s) i)) (by rw [nI_clamp (by omega)]) ?_
    refine EV.if_eq (pc := 134) (tgt := 141) dX5_count_134 (by decide) (fun c134 => ?_) (fun c134 => ?_)
    · replace c134 := b2i_eq c134
      refine EV.iconst (pc := 141) (v := 0) dX5_count_141 (by decide) ?_
      refine EV.iadd (pc := 142) dX5_count_142 ?_
      refine EV.istore_n (pc := 143) 2 dX5_count_143 rfl (by decide) (by dsimp only [lst1, lk] <;> rfl) ?_
      refine EV.iinc (pc := 144) dX5_count_144 (by decide) rfl (by first | exact nI_inc _ | rfl) (by dsimp only [lst1, lk] <;> rfl) ?_
      refine EV.goto (pc := 147) (tgt := 119) dX5_count_147 (by decide) ?_
      refine EV.eq rfl ?_ rfl rfl (ih (i + 1) (by omega))
      first | (rw [cnt_y (p := (s_li s)) c134, ← nI_p1 (cnt (s_li s) i)] <;> rfl) | (rw [cnt_n (p := (s_li s)) c134, Int32.add_zero] <;> rfl)
    · replace c134 := b2i_ne c134
      refine EV.iconst (pc := 137) (v := 1) dX5_count_137 (by decide) ?_
      refine EV.goto (pc := 138) (tgt := 142) dX5_count_138 (by decide) ?_
      refine EV.iadd (pc := 142) dX5_count_142 ?_
      refine EV.istore_n (pc := 143) 2 dX5_count_143 rfl (by decide) (by dsimp only [lst1, lk] <;> rfl) ?_
      refine EV.iinc (pc := 144) dX5_count_144 (by decide) rfl (by first | exact nI_inc _ | rfl) (by dsimp only [lst1, lk] <;> rfl) ?_
      refine EV.goto (pc := 147) (tgt := 119) dX5_count_147 (by decide) ?_
      refine EV.eq rfl ?_ rfl rfl (ih (i + 1) (by omega))
      first | (rw [cnt_y (p := (s_li s)) c134, ← nI_p1 (cnt (s_li s) i)] <;> rfl) | (rw [cnt_n (p := (s_li s)) c134, Int32.add_zero] <;> rfl)

set_option maxHeartbeats 4000000 in
set_option maxRecDepth 100000 in
theorem n_count {G : eG} {ad : Nat → Nat} {h : Nat → va_E} {s : St} {z : Zm} {hm : Nat → va_E} (hw : MW G ad s z hm h) (hI : Inv s) (w : Int32)  : MC G M_X5_count cX5_count ad 54 [.ref (ad 34), .int w] h (IS (some (.int (f_count s w))) h) := by
  have hcn : s_cn s ≤ 4 := hI.2.2.1
  by_cases hx : 0 ≤ w.toInt ∧ w.toInt ≤ 5
  · obtain ⟨w1, rfl, ew, lw⟩ := i_nat hx.1
    have h5 : w1 ≤ 5 := by omega
    refine MC.of (by decide +kernel) (Nat.le_of_ble_eq_true rfl) (by dsimp only [linit, Nat.reduceSub, List.reduceReplicate] <;> rfl) ?_
    refine EV.iconst (pc := 0) (v := 0) dX5_count_0 (by decide) ?_
    refine EV.istore_n (pc := 1) 2 dX5_count_1 rfl (by decide) (by dsimp only [lst1, lk] <;> rfl) ?_
    refine EV.iload_n (pc := 2) dX5_count_2 rfl ?_
    skip
    match w1, h5 with
    | 0, _ =>
      refine EV.tin (pc := 3) (tgt := 40) (off := 37) dX5_count_3 (by decide +kernel) (by decide +kernel) (by decide +kernel) (by decide) ?_
      refine EV.iconst (pc := 40) (v := 0) dX5_count_40 (by decide) ?_
      refine EV.istore_n (pc := 41) 3 dX5_count_41 rfl (by decide) (by dsimp only [lst1, lk] <;> rfl) ?_
      exact l_ncnt0 hw _ hcn 6 0 rfl
    | 1, _ =>
      refine EV.tin (pc := 3) (tgt := 73) (off := 70) dX5_count_3 (by decide +kernel) (by decide +kernel) (by decide +kernel) (by decide) ?_
      refine EV.aload_n (pc := 73) dX5_count_73 rfl ?_
      refine EV.getf (pc := 74) dX5_count_74 fgX5_79 (by decide) hw.h34 rfl ?_
      exact EV.iret (pc := 77) dX5_count_77 trivial ⟨rfl, rfl⟩
    | 2, _ =>
      refine EV.tin (pc := 3) (tgt := 78) (off := 75) dX5_count_3 (by decide +kernel) (by decide +kernel) (by decide +kernel) (by decide) ?_
      refine EV.aload_n (pc := 78) dX5_count_78 rfl ?_
      refine EV.getf (pc := 79) dX5_count_79 fgX5_173 (by decide) hw.h34 rfl ?_
      exact EV.iret (pc := 82) dX5_count_82 trivial ⟨rfl, rfl⟩
    | 3, _ =>
      refine EV.tin (pc := 3) (tgt := 83) (off := 80) dX5_count_3 (by decide +kernel) (by decide +kernel) (by decide +kernel) (by decide) ?_
      refine EV.iconst (pc := 83) (v := 0) dX5_count_83 (by decide) ?_
      refine EV.istore_n (pc := 84) 3 dX5_count_84 rfl (by decide) (by dsimp only [lst1, lk] <;> rfl) ?_
      exact l_ncnt3 hw _ hcn 400 0 rfl
    | 4, _ =>
      refine EV.tin (pc := 3) (tgt := 117) (off := 114) dX5_count_3 (by decide +kernel) (by decide +kernel) (by decide +kernel) (by decide) ?_
      refine EV.iconst (pc := 117) (v := 0) dX5_count_117 (by decide) ?_
      refine EV.istore_n (pc := 118) 3 dX5_count_118 rfl (by decide) (by dsimp only [lst1, lk] <;> rfl) ?_
      exact l_ncnt4 hw _ hcn (s_cn s) 0 (by omega)
    | 5, _ =>
      refine EV.tin (pc := 3) (tgt := 152) (off := 149) dX5_count_3 (by decide +kernel) (by decide +kernel) (by decide +kernel) (by decide) ?_
      refine EV.aload_n (pc := 152) dX5_count_152 rfl ?_
      refine EV.getf (pc := 153) dX5_count_153 fgX5_198 (by decide) hw.h34 rfl ?_
      exact EV.iret (pc := 156) dX5_count_156 trivial ⟨rfl, rfl⟩
  · refine MC.of (by decide +kernel) (Nat.le_of_ble_eq_true rfl) (by dsimp only [linit, Nat.reduceSub, List.reduceReplicate] <;> rfl) ?_
    refine EV.iconst (pc := 0) (v := 0) dX5_count_0 (by decide) ?_
    refine EV.istore_n (pc := 1) 2 dX5_count_1 rfl (by decide) (by dsimp only [lst1, lk] <;> rfl) ?_
    refine EV.iload_n (pc := 2) dX5_count_2 rfl ?_
    skip
    refine EV.tout (pc := 3) (tgt := 157) dX5_count_3 (by omega) (by decide) ?_
    refine EV.bipush (pc := 157) (v := -102) dX5_count_157 (by decide) ?_
    refine EV.iret (pc := 159) dX5_count_159 trivial ?_
    refine ⟨congrArg (fun z => some (Value.int z)) ?_, rfl⟩
    unfold f_count
    have q : ∀ k : Int32, 0 ≤ k.toInt → k.toInt ≤ 5 → ¬ w = k := fun k h1 h2 h3 => hx (by rw [h3]; exact ⟨h1, h2⟩)
    rw [if_neg (q 0 (by decide +kernel) (by decide +kernel)), if_neg (q 1 (by decide +kernel) (by decide +kernel)), if_neg (q 2 (by decide +kernel) (by decide +kernel)), if_neg (q 3 (by decide +kernel) (by decide +kernel)), if_neg (q 4 (by decide +kernel) (by decide +kernel)), if_neg (q 5 (by decide +kernel) (by decide +kernel))]

set_option maxHeartbeats 4000000 in
set_option maxRecDepth 100000 in
theorem q_count {G : eG} {ad : Nat → Nat} {h : Nat → va_E} {s : St} {z : Zm} {hm : Nat → va_E} (hw : MW G ad s z hm h) (hI : Inv s) (w : Int32)  : MC G M_X5_count cX5_count ad 54 [.ref (ad 34), .int w] h (PM G ad hm (.int (f_count s w)) s) := by
  exact MC.mono (n_count hw hI w) (fun v h2 q => ⟨q.1, z, by rw [q.2]; exact hw⟩)
