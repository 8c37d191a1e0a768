set_option maxHeartbeats 4000000 in
set_option maxRecDepth 100000 in
theorem m_fact {G : eG} {ad : Nat → Nat} {h : Nat → va_E} {s : St} {z : Zc} {hm : Nat → va_E} (hw : CW G ad s z hm h) (k w : Nat) (hk4 : k < 4) (hw7 : w ≤ 7) : MC G M_X4_fact cX4_fact ad 54 [.ref (ad (22 + 3 * k)), .int (nI w)] h (IS (some (.int (g_fact s k w))) h) := by
  refine MC.of (by decide +kernel) (Nat.le_of_ble_eq_true rfl) (by dsimp only [linit, Nat.reduceSub, List.reduceReplicate] <;> rfl) ?_
  refine EV.iload_n (pc := 0) dX4_fact_0 rfl ?_
  match w, hw7 with

  | 0, _ =>
    refine EV.tin (pc := 1) (tgt := 44) (off := 43) dX4_fact_1 (by decide +kernel) (by decide +kernel) (by decide +kernel) (by decide) ?_
    refine EV.aload_n (pc := 44) dX4_fact_44 rfl ?_
    refine EV.getf (pc := 45) dX4_fact_45 fgX4_113 (show 22 + 3 * k < 54 by omega) (hw.kb' hk4) rfl ?_
    exact EV.iret (pc := 48) dX4_fact_48 trivial ⟨rfl, rfl⟩
  | 1, _ =>
    refine EV.tin (pc := 1) (tgt := 49) (off := 48) dX4_fact_1 (by decide +kernel) (by decide +kernel) (by decide +kernel) (by decide) ?_
    refine EV.aload_n (pc := 49) dX4_fact_49 rfl ?_
    refine EV.getf (pc := 50) dX4_fact_50 fgX4_116 (show 22 + 3 * k < 54 by omega) (hw.kb' hk4) rfl ?_
    exact EV.iret (pc := 53) dX4_fact_53 trivial ⟨rfl, rfl⟩
  | 2, _ =>
    refine EV.tin (pc := 1) (tgt := 54) (off := 53) dX4_fact_1 (by decide +kernel) (by decide +kernel) (by decide +kernel) (by decide) ?_
    refine EV.aload_n (pc := 54) dX4_fact_54 rfl ?_
    refine EV.getf (pc := 55) dX4_fact_55 fgX4_119 (show 22 + 3 * k < 54 by omega) (hw.kb' hk4) rfl ?_
    exact EV.iret (pc := 58) dX4_fact_58 trivial ⟨rfl, rfl⟩
  | 3, _ =>
    refine EV.tin (pc := 1) (tgt := 59) (off := 58) dX4_fact_1 (by decide +kernel) (by decide +kernel) (by decide +kernel) (by decide) ?_
    refine EV.aload_n (pc := 59) dX4_fact_59 rfl ?_
    refine EV.getf (pc := 60) dX4_fact_60 fgX4_141 (show 22 + 3 * k < 54 by omega) (hw.kb' hk4) rfl ?_
    exact EV.iret (pc := 63) dX4_fact_63 trivial ⟨rfl, rfl⟩
  | 4, _ =>
    refine EV.tin (pc := 1) (tgt := 64) (off := 63) dX4_fact_1 (by decide +kernel) (by decide +kernel) (by decide +kernel) (by decide) ?_
    refine EV.aload_n (pc := 64) dX4_fact_64 rfl ?_
    refine EV.getf (pc := 65) dX4_fact_65 fgX4_151 (show 22 + 3 * k < 54 by omega) (hw.kb' hk4) rfl ?_
    refine EV.getf (pc := 68) dX4_fact_68 fgX4_182 (show 24 + 3 * k < 54 by omega) (hw.lw' hk4) rfl ?_
    refine EV.if_eq (pc := 71) (tgt := 78) dX4_fact_71 (by decide) (fun c71 => ?_) (fun c71 => ?_)
    · replace c71 := b2i_eq c71
      refine EV.iconst (pc := 78) (v := 0) dX4_fact_78 (by decide) ?_
      refine EV.iret (pc := 79) dX4_fact_79 trivial ?_
      exact ⟨congrArg (fun z => some (Value.int z)) (by first | (show _ = b2i (s_li s k); rw [c71]; rfl)), rfl⟩
    · replace c71 := b2i_ne c71
      refine EV.iconst (pc := 74) (v := 1) dX4_fact_74 (by decide) ?_
      refine EV.goto (pc := 75) (tgt := 79) dX4_fact_75 (by decide) ?_
      refine EV.iret (pc := 79) dX4_fact_79 trivial ?_
      exact ⟨congrArg (fun z => some (Value.int z)) (by first | (show _ = b2i (s_li s k); rw [c71]; rfl)), rfl⟩
  | 5, _ =>
    refine EV.tin (pc := 1) (tgt := 80) (off := 79) dX4_fact_1 (by decide +kernel) (by decide +kernel) (by decide +kernel) (by decide) ?_
    refine EV.aload_n (pc := 80) dX4_fact_80 rfl ?_
    refine EV.getf (pc := 81) dX4_fact_81 fgX4_151 (show 22 + 3 * k < 54 by omega) (hw.kb' hk4) rfl ?_
    refine EV.getf (pc := 84) dX4_fact_84 fgX4_185 (show 24 + 3 * k < 54 by omega) (hw.lw' hk4) rfl ?_
    exact EV.iret (pc := 87) dX4_fact_87 trivial ⟨rfl, rfl⟩
  | 6, _ =>
    refine EV.tin (pc := 1) (tgt := 88) (off := 87) dX4_fact_1 (by decide +kernel) (by decide +kernel) (by decide +kernel) (by decide) ?_
    refine EV.aload_n (pc := 88) dX4_fact_88 rfl ?_
    refine EV.getf (pc := 89) dX4_fact_89 fgX4_151 (show 22 + 3 * k < 54 by omega) (hw.kb' hk4) rfl ?_
    refine EV.getf (pc := 92) dX4_fact_92 fgX4_186 (show 24 + 3 * k < 54 by omega) (hw.lw' hk4) rfl ?_
    exact EV.iret (pc := 95) dX4_fact_95 trivial ⟨rfl, rfl⟩
  | 7, _ =>
    refine EV.tout (pc := 1) (tgt := 96) dX4_fact_1 (by decide +kernel) (by decide) ?_
    refine EV.aload_n (pc := 96) dX4_fact_96 rfl ?_
    refine EV.getf (pc := 97) dX4_fact_97 fgX4_151 (show 22 + 3 * k < 54 by omega) (hw.kb' hk4) rfl ?_
    refine EV.getf (pc := 100) dX4_fact_100 fgX4_187 (show 24 + 3 * k < 54 by omega) (hw.lw' hk4) rfl ?_
    exact EV.iret (pc := 103) dX4_fact_103 trivial ⟨rfl, rfl⟩

set_option maxHeartbeats 4000000 in
set_option maxRecDepth 100000 in
theorem p_told {G : eG} {ad : Nat → Nat} {h : Nat → va_E} {s : St} {z : Zc} {hm : Nat → va_E} (hw : CW G ad s z hm h) (hI : Inv s) (c : Int32) (w : Int32)  : MC G M_X4_told cX4_told ad 54 [.ref (ad 0), .int c, .int w] h (PC G ad hm (.int (f_told s c w)) s) := by
  have hcn : s_cn s ≤ 4 := hI.2.2.1
  by_cases hp : 0 ≤ c.toInt ∧ c.toInt < s_cn s
  · obtain ⟨k, rfl, ek, lk⟩ := i_nat hp.1
    have hk : k < s_cn s := by omega
    have hk4 : k < 4 := by omega
    skip
    refine MC.of (by decide +kernel) (Nat.le_of_ble_eq_true rfl) (by dsimp only [linit, Nat.reduceSub, List.reduceReplicate] <;> rfl) ?_
    refine EV.aload_n (pc := 0) dX4_told_0 rfl ?_
    refine EV.iload_n (pc := 1) dX4_told_1 rfl ?_
    refine EV.callVR1 (pc := 2) (M' := M_X4_combOf) dX4_told_2 lkX4_122 okV_X4_combOf (m_combOf k hw hk hcn) (by decide) rfl rfl (Nat.le_of_ble_eq_true rfl) (by decide) hw.h0 ?_
    refine EV.astore_n (pc := 5) 3 dX4_told_5 rfl (by decide) (by dsimp only [lst1, lk] <;> rfl) ?_
    refine EV.aload_n (pc := 6) dX4_told_6 rfl ?_
    refine EV.ifnonnull (pc := 7) (tgt := 13) dX4_told_7 (by decide) ?_
    refine EV.iload_n (pc := 13) dX4_told_13 rfl ?_
    refine EV.iconst (pc := 14) (v := 0) dX4_told_14 (by decide) ?_
    refine EV.bipush (pc := 15) (v := 7) dX4_told_15 (by decide) ?_
    refine EV.callSR1 (pc := 17) (M' := M_X4_within) dX4_told_17 lkX4_106 okS_X4_within (m_within _ _ _) (by decide) rfl rfl (Nat.le_of_ble_eq_true rfl) ?_
    refine EV.if_ne (pc := 20) (tgt := 26) dX4_told_20 (by decide) (fun c20 => ?_) (fun c20 => ?_)
    · replace c20 := b2i_T c20
      try simp only [Int32.lt_iff_toInt_lt, Int32.le_iff_toInt_le, ← Int32.toInt_inj, Int64.lt_iff_toInt_lt, Int64.le_iff_toInt_le, ← Int64.toInt_inj, Int32.toInt_toInt64, i_l0, i_l1, i_l2, i_l5, i_l19, i_m1, j_l0, j_l1, j_l5, i_l3, i_l4, i_l6, i_l7, i_l8, i_l9, i_l12, i_l16, i_l20, i_l60, i_l64, i_l100, i_l200, i_l304, i_l2000, i_l10000, i_l100000, i_l1000000, i_n1000000, i_n19, i_n101] at c20
      obtain ⟨w1, rfl, ew1, lw1⟩ := i_nat (show 0 ≤ w.toInt by omega)
      refine EV.aload_n (pc := 26) dX4_told_26 rfl ?_
      refine EV.iload_n (pc := 27) dX4_told_27 rfl ?_
      refine EV.callSR1 (pc := 28) (M' := M_X4_fact) dX4_told_28 lkX4_126 okS_X4_fact (m_fact hw k w1 hk4 (by omega)) (by decide) rfl rfl (Nat.le_of_ble_eq_true rfl) ?_
      refine EV.iret (pc := 31) dX4_told_31 trivial ?_
      exact PC.mk (by unfold f_told; rw [if_pos hp, if_pos c20, nI_tn (by omega), nI_tn (by omega)]) rfl hw
    · replace c20 := b2i_F c20
      try simp only [Int32.lt_iff_toInt_lt, Int32.le_iff_toInt_le, ← Int32.toInt_inj, Int64.lt_iff_toInt_lt, Int64.le_iff_toInt_le, ← Int64.toInt_inj, Int32.toInt_toInt64, i_l0, i_l1, i_l2, i_l5, i_l19, i_m1, j_l0, j_l1, j_l5, i_l3, i_l4, i_l6, i_l7, i_l8, i_l9, i_l12, i_l16, i_l20, i_l60, i_l64, i_l100, i_l200, i_l304, i_l2000, i_l10000, i_l100000, i_l1000000, i_n1000000, i_n19, i_n101] at c20
      refine EV.bipush (pc := 23) (v := -102) dX4_told_23 (by decide) ?_
      refine EV.iret (pc := 25) dX4_told_25 trivial ?_
      exact PC.mk (by unfold f_told; rw [if_pos hp, if_neg c20]) rfl hw
  · skip
    refine MC.of (by decide +kernel) (Nat.le_of_ble_eq_true rfl) (by dsimp only [linit, Nat.reduceSub, List.reduceReplicate] <;> rfl) ?_
    refine EV.aload_n (pc := 0) dX4_told_0 rfl ?_
    refine EV.iload_n (pc := 1) dX4_told_1 rfl ?_
    refine EV.callVR1 (pc := 2) (M' := M_X4_combOf) dX4_told_2 lkX4_122 okV_X4_combOf (m_combOfN c hw hp hcn) (by decide) rfl rfl (Nat.le_of_ble_eq_true rfl) (by decide) hw.h0 ?_
    refine EV.astoreN_n (pc := 5) 3 dX4_told_5 rfl (by decide) (by dsimp only [lst1, lk] <;> rfl) ?_
    refine EV.aloadN_n (pc := 6) dX4_told_6 rfl ?_
    refine EV.ifnonnullN (pc := 7) dX4_told_7 ?_
    refine EV.bipush (pc := 10) (v := -101) dX4_told_10 (by decide) ?_
    refine EV.iret (pc := 12) dX4_told_12 trivial ?_
    exact PC.mk (by unfold f_told; rw [if_neg hp]) rfl hw

set_option maxHeartbeats 4000000 in
set_option maxRecDepth 100000 in
theorem p_number {G : eG} {ad : Nat → Nat} {h : Nat → va_E} {s : St} {z : Zc} {hm : Nat → va_E} (hw : CW G ad s z hm h) (hI : Inv s) (c : Int32) (x : Int32)  : MC G M_X4_number cX4_number ad 54 [.ref (ad 0), .int c, .int x] h (PC G ad hm (.long (f_number s c x)) s) := by
  have hcn : s_cn s ≤ 4 := hI.2.2.1
  by_cases hp : 0 ≤ c.toInt ∧ c.toInt < s_cn s
  · obtain ⟨k, rfl, ek, lk⟩ := i_nat hp.1
    have hk : k < s_cn s := by omega
    have hk4 : k < 4 := by omega
    have hco : s_co s k ≤ 20 := (hI.2.2.2.1 k hk4).2.2.2
    skip
    refine MC.of (by decide +kernel) (Nat.le_of_ble_eq_true rfl) (by dsimp only [linit, Nat.reduceSub, List.reduceReplicate] <;> rfl) ?_
    refine EV.aload_n (pc := 0) dX4_number_0 rfl ?_
    refine EV.iload_n (pc := 1) dX4_number_1 rfl ?_
    refine EV.callVR1 (pc := 2) (M' := M_X4_combOf) dX4_number_2 lkX4_122 okV_X4_combOf (m_combOf k hw hk hcn) (by decide) rfl rfl (Nat.le_of_ble_eq_true rfl) (by decide) hw.h0 ?_
    refine EV.astore_n (pc := 5) 3 dX4_number_5 rfl (by decide) (by dsimp only [lst1, lk] <;> rfl) ?_
    refine EV.aload_n (pc := 6) dX4_number_6 rfl ?_
    refine EV.ifnonnull (pc := 7) (tgt := 14) dX4_number_7 (by decide) ?_
    refine EV.aload_n (pc := 14) dX4_number_14 rfl ?_
    refine EV.iload_n (pc := 15) dX4_number_15 rfl ?_
    refine EV.callVR1 (pc := 16) (M' := M_X0_has) dX4_number_16 lkX4_159 okV_X0_has (m_has (22 + 3 * k) (23 + 3 * k) (24 + 3 * k) (s_ca s k) (s_cb s k) (s_cr s k) (s_co s k) (s_nm s k) _ (by omega) (by omega) hco (hw.kb' hk4) (hw.nm k hk4)) (by decide) rfl rfl (Nat.le_of_ble_eq_true rfl) (show 22 + 3 * k < 54 by omega) (hw.kb' hk4) ?_
    refine EV.if_eq (pc := 19) (tgt := 30) dX4_number_19 (by decide) (fun c19 => ?_) (fun c19 => ?_)
    · replace c19 := b2i_F c19
      refine EV.ldc2 (pc := 30) dX4_number_30 kcX4_165 ?_
      refine EV.lret (pc := 33) dX4_number_33 trivial ?_
      exact PC.mk (by unfold f_number; rw [if_pos hp, nI_tn (by omega)]; first | (rw [if_pos c19]; unfold nAt; rw [if_pos c19]) | (rw [if_neg c19])) rfl hw
    · replace c19 := b2i_T c19
      refine EV.aload_n (pc := 22) dX4_number_22 rfl ?_
      refine EV.iload_n (pc := 23) dX4_number_23 rfl ?_
      refine EV.callVR1 (pc := 24) (M' := M_X0_at) dX4_number_24 lkX4_162 okV_X0_at (m_kat (22 + 3 * k) (23 + 3 * k) (24 + 3 * k) (s_ca s k) (s_cb s k) (s_cr s k) (s_co s k) (s_nm s k) _ (by omega) (by omega) hco (hw.kb' hk4) (hw.nm k hk4)) (by decide) rfl rfl (Nat.le_of_ble_eq_true rfl) (show 22 + 3 * k < 54 by omega) (hw.kb' hk4) ?_
      refine EV.goto (pc := 27) (tgt := 33) dX4_number_27 (by decide) ?_
      refine EV.lret (pc := 33) dX4_number_33 trivial ?_
      exact PC.mk (by unfold f_number; rw [if_pos hp, nI_tn (by omega)]; first | (rw [if_pos c19]; unfold nAt; rw [if_pos c19]) | (rw [if_neg c19])) rfl hw
  · skip
    refine MC.of (by decide +kernel) (Nat.le_of_ble_eq_true rfl) (by dsimp only [linit, Nat.reduceSub, List.reduceReplicate] <;> rfl) ?_
    refine EV.aload_n (pc := 0) dX4_number_0 rfl ?_
    refine EV.iload_n (pc := 1) dX4_number_1 rfl ?_
    refine EV.callVR1 (pc := 2) (M' := M_X4_combOf) dX4_number_2 lkX4_122 okV_X4_combOf (m_combOfN c hw hp hcn) (by decide) rfl rfl (Nat.le_of_ble_eq_true rfl) (by decide) hw.h0 ?_
    refine EV.astoreN_n (pc := 5) 3 dX4_number_5 rfl (by decide) (by dsimp only [lst1, lk] <;> rfl) ?_
    refine EV.aloadN_n (pc := 6) dX4_number_6 rfl ?_
    refine EV.ifnonnullN (pc := 7) dX4_number_7 ?_
    refine EV.ldc2 (pc := 10) dX4_number_10 kcX4_157 ?_
    refine EV.lret (pc := 13) dX4_number_13 trivial ?_
    exact PC.mk (by unfold f_number; rw [if_neg hp]) rfl hw

set_option maxHeartbeats 4000000 in
set_option maxRecDepth 100000 in
theorem p_law {G : eG} {ad : Nat → Nat} {h : Nat → va_E} {s : St} {z : Zc} {hm : Nat → va_E} (hw : CW G ad s z hm h) (hI : Inv s) (c : Int32) (a b : Int32)  : MC G M_X4_law cX4_law ad 54 [.ref (ad 0), .int c, .int a, .int b] h (PC G ad hm (.int (f_law s c a b).1) (f_law s c a b).2) := by
  have hcn : s_cn s ≤ 4 := hI.2.2.1
  by_cases hp : 0 ≤ c.toInt ∧ c.toInt < s_cn s
  · obtain ⟨k, rfl, ek, lk⟩ := i_nat hp.1
    have hk : k < s_cn s := by omega
    have hk4 : k < 4 := by omega
    have hco : s_co s k ≤ 20 := (hI.2.2.2.1 k hk4).2.2.2
    have en := nI_t (show s_co s k < 2147483648 by omega)
    have e0 : f_law s (nI k) a b = g_law s k a b := by unfold f_law; rw [if_pos hp, nI_tn (by omega)]
    rw [e0]
    refine MC.of (by decide +kernel) (Nat.le_of_ble_eq_true rfl) (by dsimp only [linit, Nat.reduceSub, List.reduceReplicate] <;> rfl) ?_
    refine EV.aload_n (pc := 0) dX4_law_0 rfl ?_
    refine EV.iload_n (pc := 1) dX4_law_1 rfl ?_
    refine EV.callVR1 (pc := 2) (M' := M_X4_combOf) dX4_law_2 lkX4_122 okV_X4_combOf (m_combOf k hw hk hcn) (by decide) rfl rfl (Nat.le_of_ble_eq_true rfl) (by decide) hw.h0 ?_
    refine EV.astore (pc := 5) dX4_law_5 (by decide) (by dsimp only [lst1, lk] <;> rfl) ?_
    refine EV.aload (pc := 7) dX4_law_7 rfl ?_
    refine EV.ifnonnull (pc := 9) (tgt := 15) dX4_law_9 (by decide) ?_
    refine EV.iload_n (pc := 15) dX4_law_15 rfl ?_
    refine EV.ldc (pc := 16) dX4_law_16 kcX4_193 ?_
    refine EV.ldc (pc := 18) dX4_law_18 kcX4_171 ?_
    refine EV.callSR1 (pc := 20) (M' := M_X4_within) dX4_law_20 lkX4_106 okS_X4_within (m_within _ _ _) (by decide) rfl rfl (Nat.le_of_ble_eq_true rfl) ?_
    refine EV.if_eq (pc := 23) (tgt := 36) dX4_law_23 (by decide) (fun c23 => ?_) (fun c23 => ?_)
    · replace c23 := b2i_F c23
      try simp only [Int32.lt_iff_toInt_lt, Int32.le_iff_toInt_le, ← Int32.toInt_inj, Int64.lt_iff_toInt_lt, Int64.le_iff_toInt_le, ← Int64.toInt_inj, Int32.toInt_toInt64, i_l0, i_l1, i_l2, i_l5, i_l19, i_m1, j_l0, j_l1, j_l5, i_l3, i_l4, i_l6, i_l7, i_l8, i_l9, i_l12, i_l16, i_l20, i_l60, i_l64, i_l100, i_l200, i_l304, i_l2000, i_l10000, i_l100000, i_l1000000, i_n1000000, i_n19, i_n101, en] at c23
      refine EV.bipush (pc := 36) (v := -102) dX4_law_36 (by decide) ?_
      refine EV.iret (pc := 38) dX4_law_38 trivial ?_
      exact PC.i (by unfold g_law; rw [if_neg (by omega)]) hw
    · replace c23 := b2i_T c23
      try simp only [Int32.lt_iff_toInt_lt, Int32.le_iff_toInt_le, ← Int32.toInt_inj, Int64.lt_iff_toInt_lt, Int64.le_iff_toInt_le, ← Int64.toInt_inj, Int32.toInt_toInt64, i_l0, i_l1, i_l2, i_l5, i_l19, i_m1, j_l0, j_l1, j_l5, i_l3, i_l4, i_l6, i_l7, i_l8, i_l9, i_l12, i_l16, i_l20, i_l60, i_l64, i_l100, i_l200, i_l304, i_l2000, i_l10000, i_l100000, i_l1000000, i_n1000000, i_n19, i_n101, en] at c23
      refine EV.iload_n (pc := 26) dX4_law_26 rfl ?_
      refine EV.iconst (pc := 27) (v := 1) dX4_law_27 (by decide) ?_
      refine EV.ldc (pc := 28) dX4_law_28 kcX4_194 ?_
      refine EV.callSR1 (pc := 30) (M' := M_X4_within) dX4_law_30 lkX4_106 okS_X4_within (m_within _ _ _) (by decide) rfl rfl (Nat.le_of_ble_eq_true rfl) ?_
      refine EV.if_ne (pc := 33) (tgt := 39) dX4_law_33 (by decide) (fun c33 => ?_) (fun c33 => ?_)
      · replace c33 := b2i_T c33
        try simp only [Int32.lt_iff_toInt_lt, Int32.le_iff_toInt_le, ← Int32.toInt_inj, Int64.lt_iff_toInt_lt, Int64.le_iff_toInt_le, ← Int64.toInt_inj, Int32.toInt_toInt64, i_l0, i_l1, i_l2, i_l5, i_l19, i_m1, j_l0, j_l1, j_l5, i_l3, i_l4, i_l6, i_l7, i_l8, i_l9, i_l12, i_l16, i_l20, i_l60, i_l64, i_l100, i_l200, i_l304, i_l2000, i_l10000, i_l100000, i_l1000000, i_n1000000, i_n19, i_n101, en] at c33
        refine EV.aload (pc := 39) dX4_law_39 rfl ?_
        refine EV.getf (pc := 41) dX4_law_41 fgX4_141 (show 22 + 3 * k < 54 by omega) (hw.kb' hk4) rfl ?_
        refine EV.if_ne (pc := 44) (tgt := 50) dX4_law_44 (by decide) (fun c44 => ?_) (fun c44 => ?_)
        · try simp only [Int32.lt_iff_toInt_lt, Int32.le_iff_toInt_le, ← Int32.toInt_inj, Int64.lt_iff_toInt_lt, Int64.le_iff_toInt_le, ← Int64.toInt_inj, Int32.toInt_toInt64, i_l0, i_l1, i_l2, i_l5, i_l19, i_m1, j_l0, j_l1, j_l5, i_l3, i_l4, i_l6, i_l7, i_l8, i_l9, i_l12, i_l16, i_l20, i_l60, i_l64, i_l100, i_l200, i_l304, i_l2000, i_l10000, i_l100000, i_l1000000, i_n1000000, i_n19, i_n101, en] at c44
          refine EV.aload (pc := 50) dX4_law_50 rfl ?_
          refine EV.getf (pc := 52) dX4_law_52 fgX4_151 (show 22 + 3 * k < 54 by omega) (hw.kb' hk4) rfl ?_
          refine EV.iload_n (pc := 55) dX4_law_55 rfl ?_
          refine EV.iload_n (pc := 56) dX4_law_56 rfl ?_
          refine EV.iconst (pc := 57) (v := 0) dX4_law_57 (by decide) ?_
          refine EV.callVR0 (pc := 58) (M' := M_X1_become) dX4_law_58 lkX4_190 okV_X1_become (m_become (24 + 3 * k) (b2i (s_li s k)) (s_lA s k) (s_lB s k) (s_lF s k) _ _ _ (by omega) (hw.lw' hk4)) (by decide) rfl rfl (Nat.le_of_ble_eq_true rfl) (show 24 + 3 * k < 54 by omega) (hw.lw' hk4) ?_
          refine EV.abs (Pr := CW G ad (S_lF (S_lB (S_lA (S_li s (va_up (s_li s) k true)) (va_up (s_lA s) k a)) (va_up (s_lB s) k b)) (va_up (s_lF s) k 0)) z hm) (hw.set_lw k true a b 0 hk4) (fun h hw => ?_)
          refine EV.iconst (pc := 61) (v := 1) dX4_law_61 (by decide) ?_
          refine EV.iret (pc := 62) dX4_law_62 trivial ?_
          exact PC.i (by unfold g_law; rw [if_pos (by omega), if_neg (by omega)]) hw
        · try simp only [Int32.lt_iff_toInt_lt, Int32.le_iff_toInt_le, ← Int32.toInt_inj, Int64.lt_iff_toInt_lt, Int64.le_iff_toInt_le, ← Int64.toInt_inj, Int32.toInt_toInt64, i_l0, i_l1, i_l2, i_l5, i_l19, i_m1, j_l0, j_l1, j_l5, i_l3, i_l4, i_l6, i_l7, i_l8, i_l9, i_l12, i_l16, i_l20, i_l60, i_l64, i_l100, i_l200, i_l304, i_l2000, i_l10000, i_l100000, i_l1000000, i_n1000000, i_n19, i_n101, en] at c44
          refine EV.bipush (pc := 47) (v := -103) dX4_law_47 (by decide) ?_
          refine EV.iret (pc := 49) dX4_law_49 trivial ?_
          exact PC.i (by unfold g_law; rw [if_pos (by omega), if_pos (by omega)]) hw
      · replace c33 := b2i_F c33
        try simp only [Int32.lt_iff_toInt_lt, Int32.le_iff_toInt_le, ← Int32.toInt_inj, Int64.lt_iff_toInt_lt, Int64.le_iff_toInt_le, ← Int64.toInt_inj, Int32.toInt_toInt64, i_l0, i_l1, i_l2, i_l5, i_l19, i_m1, j_l0, j_l1, j_l5, i_l3, i_l4, i_l6, i_l7, i_l8, i_l9, i_l12, i_l16, i_l20, i_l60, i_l64, i_l100, i_l200, i_l304, i_l2000, i_l10000, i_l100000, i_l1000000, i_n1000000, i_n19, i_n101, en] at c33
        refine EV.bipush (pc := 36) (v := -102) dX4_law_36 (by decide) ?_
        refine EV.iret (pc := 38) dX4_law_38 trivial ?_
        exact PC.i (by unfold g_law; rw [if_neg (by omega)]) hw
  · have e0 : f_law s c a b = (-101, s) := by unfold f_law; rw [if_neg hp]
    rw [e0]
    refine MC.of (by decide +kernel) (Nat.le_of_ble_eq_true rfl) (by dsimp only [linit, Nat.reduceSub, List.reduceReplicate] <;> rfl) ?_
    refine EV.aload_n (pc := 0) dX4_law_0 rfl ?_
    refine EV.iload_n (pc := 1) dX4_law_1 rfl ?_
    refine EV.callVR1 (pc := 2) (M' := M_X4_combOf) dX4_law_2 lkX4_122 okV_X4_combOf (m_combOfN c hw hp hcn) (by decide) rfl rfl (Nat.le_of_ble_eq_true rfl) (by decide) hw.h0 ?_
    refine EV.astoreN (pc := 5) dX4_law_5 (by decide) (by dsimp only [lst1, lk] <;> rfl) ?_
    refine EV.aloadN (pc := 7) dX4_law_7 rfl ?_
    refine EV.ifnonnullN (pc := 9) dX4_law_9 ?_
    refine EV.bipush (pc := 12) (v := -101) dX4_law_12 (by decide) ?_
    exact EV.iret (pc := 14) dX4_law_14 trivial ⟨rfl, z, hw⟩

theorem wv_eq {a b : Int32} {z : Int32} (ha : -1000000 ≤ a.toInt ∧ a.toInt ≤ 1000000) (hb : 0 ≤ b.toInt ∧ b.toInt ≤ 100000) (hz : -100000 ≤ z.toInt ∧ z.toInt ≤ 100000) : a.toInt64 + jI ((b.toInt64 * z.toInt64).toInt / 64) = jI (wv a.toInt b.toInt z.toInt) := by
  rw [i_l, i_l, i_l, jI_mul]
  have h1 : -10000000000 ≤ b.toInt * z.toInt ∧ b.toInt * z.toInt ≤ 10000000000 := by
    have h2 : (b.toInt * z.toInt).natAbs ≤ 100000 * 100000 := by
      rw [Int.natAbs_mul]
      exact Nat.mul_le_mul (by omega) (by omega)
    omega
  rw [jI_toInt (by omega) (by omega), jI_add]
  rfl

set_option maxHeartbeats 4000000 in
set_option maxRecDepth 100000 in
theorem p_wave {G : eG} {ad : Nat → Nat} {h : Nat → va_E} {s : St} {z : Zc} {hm : Nat → va_E} (hw : CW G ad s z hm h) (hI : Inv s) (c : Int32) (y : Int32)  : MC G M_X4_wave cX4_wave ad 54 [.ref (ad 0), .int c, .int y] h (PC G ad hm (.int (f_wave s c y)) s) := by
  have hcn : s_cn s ≤ 4 := hI.2.2.1
  by_cases hp : 0 ≤ c.toInt ∧ c.toInt < s_cn s
  · obtain ⟨k, rfl, ek, lk⟩ := i_nat hp.1
    have hk : k < s_cn s := by omega
    have hk4 : k < 4 := by omega
    skip
    refine MC.of (by decide +kernel) (Nat.le_of_ble_eq_true rfl) (by dsimp only [linit, Nat.reduceSub, List.reduceReplicate] <;> rfl) ?_
    refine EV.aload_n (pc := 0) dX4_wave_0 rfl ?_
    refine EV.iload_n (pc := 1) dX4_wave_1 rfl ?_
    refine EV.callVR1 (pc := 2) (M' := M_X4_combOf) dX4_wave_2 lkX4_122 okV_X4_combOf (m_combOf k hw hk hcn) (by decide) rfl rfl (Nat.le_of_ble_eq_true rfl) (by decide) hw.h0 ?_
    refine EV.astore_n (pc := 5) 3 dX4_wave_5 rfl (by decide) (by dsimp only [lst1, lk] <;> rfl) ?_
    refine EV.aload_n (pc := 6) dX4_wave_6 rfl ?_
    refine EV.ifnonnull (pc := 7) (tgt := 13) dX4_wave_7 (by decide) ?_
    refine EV.iload_n (pc := 13) dX4_wave_13 rfl ?_
    refine EV.iconst (pc := 14) (v := 0) dX4_wave_14 (by decide) ?_
    refine EV.sipush (pc := 15) (v := 2000) dX4_wave_15 (by decide) ?_
    refine EV.callSR1 (pc := 18) (M' := M_X4_within) dX4_wave_18 lkX4_106 okS_X4_within (m_within _ _ _) (by decide) rfl rfl (Nat.le_of_ble_eq_true rfl) ?_
    refine EV.if_ne (pc := 21) (tgt := 27) dX4_wave_21 (by decide) (fun c21 => ?_) (fun c21 => ?_)
    · replace c21 := b2i_T c21
      try simp only [Int32.lt_iff_toInt_lt, Int32.le_iff_toInt_le, ← Int32.toInt_inj, Int64.lt_iff_toInt_lt, Int64.le_iff_toInt_le, ← Int64.toInt_inj, Int32.toInt_toInt64, i_l0, i_l1, i_l2, i_l5, i_l19, i_m1, j_l0, j_l1, j_l5, i_l3, i_l4, i_l6, i_l7, i_l8, i_l9, i_l12, i_l16, i_l20, i_l60, i_l64, i_l100, i_l200, i_l304, i_l2000, i_l10000, i_l100000, i_l1000000, i_n1000000, i_n19, i_n101] at c21
      refine EV.aload_n (pc := 27) dX4_wave_27 rfl ?_
      refine EV.getf (pc := 28) dX4_wave_28 fgX4_151 (show 22 + 3 * k < 54 by omega) (hw.kb' hk4) rfl ?_
      refine EV.getf (pc := 31) dX4_wave_31 fgX4_182 (show 24 + 3 * k < 54 by omega) (hw.lw' hk4) rfl ?_
      refine EV.if_ne (pc := 34) (tgt := 40) dX4_wave_34 (by decide) (fun c34 => ?_) (fun c34 => ?_)
      · replace c34 := b2i_ne c34
        refine EV.aload_n (pc := 40) dX4_wave_40 rfl ?_
        refine EV.getf (pc := 41) dX4_wave_41 fgX4_151 (show 22 + 3 * k < 54 by omega) (hw.kb' hk4) rfl ?_
        refine EV.getf (pc := 44) dX4_wave_44 fgX4_185 (show 24 + 3 * k < 54 by omega) (hw.lw' hk4) rfl ?_
        refine EV.i2l (pc := 47) dX4_wave_47 ?_
        refine EV.aload_n (pc := 48) dX4_wave_48 rfl ?_
        refine EV.getf (pc := 49) dX4_wave_49 fgX4_151 (show 22 + 3 * k < 54 by omega) (hw.kb' hk4) rfl ?_
        refine EV.getf (pc := 52) dX4_wave_52 fgX4_186 (show 24 + 3 * k < 54 by omega) (hw.lw' hk4) rfl ?_
        refine EV.i2l (pc := 55) dX4_wave_55 ?_
        refine EV.iload_n (pc := 56) dX4_wave_56 rfl ?_
        refine EV.callSR1 (pc := 57) (M' := M_X4_waveAt) dX4_wave_57 lkX4_198 okS_X4_waveAt (m_waveAt _ _ _) (by decide) rfl rfl (Nat.le_of_ble_eq_true rfl) ?_
        refine EV.l2i (pc := 60) dX4_wave_60 ?_
        refine EV.iret (pc := 61) dX4_wave_61 trivial ?_
        have hl := hI.2.2.2.2.2.1 k hk4 c34
        exact PC.mk (by unfold f_wave; rw [if_pos hp, if_pos c21, nI_tn (by omega), if_pos c34, wv_eq (by omega) (by omega) (by omega), jI_i]) rfl hw
      · replace c34 := b2i_eq c34
        refine EV.ldc (pc := 37) dX4_wave_37 kcX4_197 ?_
        refine EV.iret (pc := 39) dX4_wave_39 trivial ?_
        exact PC.mk (by unfold f_wave; rw [if_pos hp, if_pos c21, nI_tn (by omega), if_neg (by simp [c34])]) rfl hw
    · replace c21 := b2i_F c21
      try simp only [Int32.lt_iff_toInt_lt, Int32.le_iff_toInt_le, ← Int32.toInt_inj, Int64.lt_iff_toInt_lt, Int64.le_iff_toInt_le, ← Int64.toInt_inj, Int32.toInt_toInt64, i_l0, i_l1, i_l2, i_l5, i_l19, i_m1, j_l0, j_l1, j_l5, i_l3, i_l4, i_l6, i_l7, i_l8, i_l9, i_l12, i_l16, i_l20, i_l60, i_l64, i_l100, i_l200, i_l304, i_l2000, i_l10000, i_l100000, i_l1000000, i_n1000000, i_n19, i_n101] at c21
      refine EV.ldc (pc := 24) dX4_wave_24 kcX4_196 ?_
      refine EV.iret (pc := 26) dX4_wave_26 trivial ?_
      exact PC.mk (by unfold f_wave; rw [if_pos hp, if_neg c21]) rfl hw
  · skip
    refine MC.of (by decide +kernel) (Nat.le_of_ble_eq_true rfl) (by dsimp only [linit, Nat.reduceSub, List.reduceReplicate] <;> rfl) ?_
    refine EV.aload_n (pc := 0) dX4_wave_0 rfl ?_
    refine EV.iload_n (pc := 1) dX4_wave_1 rfl ?_
    refine EV.callVR1 (pc := 2) (M' := M_X4_combOf) dX4_wave_2 lkX4_122 okV_X4_combOf (m_combOfN c hw hp hcn) (by decide) rfl rfl (Nat.le_of_ble_eq_true rfl) (by decide) hw.h0 ?_
    refine EV.astoreN_n (pc := 5) 3 dX4_wave_5 rfl (by decide) (by dsimp only [lst1, lk] <;> rfl) ?_
    refine EV.aloadN_n (pc := 6) dX4_wave_6 rfl ?_
    refine EV.ifnonnullN (pc := 7) dX4_wave_7 ?_
    refine EV.ldc (pc := 10) dX4_wave_10 kcX4_195 ?_
    refine EV.iret (pc := 12) dX4_wave_12 trivial ?_
    exact PC.mk (by unfold f_wave; rw [if_neg hp]) rfl hw

set_option maxHeartbeats 4000000 in
set_option maxRecDepth 100000 in
theorem p_joined {G : eG} {ad : Nat → Nat} {h : Nat → va_E} {s : St} {z : Zc} {hm : Nat → va_E} (hw : CW G ad s z hm h) (hI : Inv s) (k : Int32)  : MC G M_X4_joined cX4_joined ad 54 [.ref (ad 0), .int k] h (PC G ad hm (.long (f_joined s k)) s) := by
  have hgc : s_gc s ≤ 60 := hI.2.2.2.2.2.2.2.2.2.1
  have en : (nI (s_gc s) - 1).toInt = (s_gc s : Int) - 1 := by rw [nI_iI, show (1 : Int32) = iI 1 from iI_lit 1, iI_sub, iI_toInt (by omega) (by omega)]
  refine MC.of (by decide +kernel) (Nat.le_of_ble_eq_true rfl) (by dsimp only [linit, Nat.reduceSub, List.reduceReplicate] <;> rfl) ?_
  refine EV.iload_n (pc := 0) dX4_joined_0 rfl ?_
  refine EV.iconst (pc := 1) (v := 0) dX4_joined_1 (by decide) ?_
  refine EV.aload_n (pc := 2) dX4_joined_2 rfl ?_
  refine EV.getf (pc := 3) dX4_joined_3 fgX4_210 (by decide) hw.h0 rfl ?_
  refine EV.iconst (pc := 6) (v := 1) dX4_joined_6 (by decide) ?_
  refine EV.isub (pc := 7) dX4_joined_7 ?_
  refine EV.callSR1 (pc := 8) (M' := M_X4_within) dX4_joined_8 lkX4_106 okS_X4_within (m_within _ _ _) (by decide) rfl rfl (Nat.le_of_ble_eq_true rfl) ?_
  refine EV.if_eq (pc := 11) (tgt := 23) dX4_joined_11 (by decide) (fun c11 => ?_) (fun c11 => ?_)
  · replace c11 := b2i_F c11
    try simp only [Int32.lt_iff_toInt_lt, Int32.le_iff_toInt_le, ← Int32.toInt_inj, Int64.lt_iff_toInt_lt, Int64.le_iff_toInt_le, ← Int64.toInt_inj, Int32.toInt_toInt64, i_l0, i_l1, i_l2, i_l5, i_l19, i_m1, j_l0, j_l1, j_l5, i_l3, i_l4, i_l6, i_l7, i_l8, i_l9, i_l12, i_l16, i_l20, i_l60, i_l64, i_l100, i_l200, i_l304, i_l2000, i_l10000, i_l100000, i_l1000000, i_n1000000, i_n19, i_n101, en] at c11
    refine EV.ldc2 (pc := 23) dX4_joined_23 kcX4_165 ?_
    refine EV.lret (pc := 26) dX4_joined_26 trivial ?_
    exact PC.mk (by unfold f_joined; first | (rw [if_pos (by omega)]; rfl) | (rw [if_neg (by omega)])) rfl hw
  · replace c11 := b2i_T c11
    try simp only [Int32.lt_iff_toInt_lt, Int32.le_iff_toInt_le, ← Int32.toInt_inj, Int64.lt_iff_toInt_lt, Int64.le_iff_toInt_le, ← Int64.toInt_inj, Int32.toInt_toInt64, i_l0, i_l1, i_l2, i_l5, i_l19, i_m1, j_l0, j_l1, j_l5, i_l3, i_l4, i_l6, i_l7, i_l8, i_l9, i_l12, i_l16, i_l20, i_l60, i_l64, i_l100, i_l200, i_l304, i_l2000, i_l10000, i_l100000, i_l1000000, i_n1000000, i_n19, i_n101, en] at c11
    refine EV.aload_n (pc := 14) dX4_joined_14 rfl ?_
    refine EV.getf (pc := 15) dX4_joined_15 fgX4_29 (by decide) hw.h0 rfl ?_
    refine EV.iload_n (pc := 18) dX4_joined_18 rfl ?_
    refine EV.lald (pc := 19) dX4_joined_19 (by decide) hw.h5 (by rw [vp_in_iff]; omega) ?_
    refine EV.goto (pc := 20) (tgt := 26) dX4_joined_20 (by decide) ?_
    refine EV.lret (pc := 26) dX4_joined_26 trivial ?_
    exact PC.mk (by unfold f_joined; first | (rw [if_pos (by omega)]; rfl) | (rw [if_neg (by omega)])) rfl hw
