theorem EV.mono {G : eG} {M : eM} {cc : ByteArray} {X : Option (Nat × Nat × (Nat → Int32))} {ad : Nat → Nat} {n : Nat} {post post' : eP} {pc : Nat} {lv : List (Option Value)} {st : List Value} {h : Nat → va_E} (k : EV G M cc X ad n post pc lv st h) (hp : ∀ v h', post v h' → post' v h') : EV G M cc X ad n post' pc lv st h := by
  intro p e R s m args below meth c A cells slots Q H locs ls hC hX hR hP hD hS hl
  exact k p e R s m args below meth c A cells slots Q H locs ls hC hX (fun v h H locs pc ls a b c d e f => hR v h H locs pc ls (hp v h a) b c d e f) hP hD hS hl

def f_shift (s : St) (c d x : Int32) : Int64 := if (0 ≤ c.toInt ∧ c.toInt < s_cn s) ∧ (0 ≤ d.toInt ∧ d.toInt < s_cn s) then (if -19 ≤ x.toInt ∧ x.toInt ≤ 19 then csN (s_nm s c.toInt.toNat) (s_nm s d.toInt.toNat) (s_co s d.toInt.toNat) x.toInt (s_co s c.toInt.toNat) else -102) else -101

set_option maxHeartbeats 4000000 in
set_option maxRecDepth 100000 in
theorem p_shift {G : eG} {ad : Nat → Nat} {h : Nat → va_E} {s : St} {z : Zc} {hm : Nat → va_E} (hw : CW G ad s z hm h) (hI : Inv s) (c d x : Int32)  : MC G M_X4_shift cX4_shift ad 54 [.ref (ad 0), .int c, .int d, .int x] h (PC G ad hm (.long (f_shift s c d x)) s) := by
  have hcn : s_cn s ≤ 4 := hI.2.2.1
  by_cases hpk : 0 ≤ c.toInt ∧ c.toInt < s_cn s
  · obtain ⟨k, rfl, ek, lk⟩ := i_nat hpk.1
    have hk : k < s_cn s := by omega
    have hk4 : k < 4 := by omega
    have hbk := hI.2.2.2.1 k hk4
    by_cases hpj : 0 ≤ d.toInt ∧ d.toInt < s_cn s
    · obtain ⟨j, rfl, ej, lj⟩ := i_nat hpj.1
      have hj : j < s_cn s := by omega
      have hj4 : j < 4 := by omega
      have hbj := hI.2.2.2.1 j hj4
      refine MC.of (by decide +kernel) (Nat.le_of_ble_eq_true rfl) (by dsimp only [linit, Nat.reduceSub, List.reduceReplicate] <;> rfl) ?_
      refine EV.aload_n (pc := 0) dX4_shift_0 rfl ?_
      refine EV.iload_n (pc := 1) dX4_shift_1 rfl ?_
      refine EV.callVR1 (pc := 2) (M' := M_X4_combOf) dX4_shift_2 lkX4_122 okV_X4_combOf (m_combOf k hw hk hcn) (by decide) rfl rfl (Nat.le_of_ble_eq_true rfl) (by decide) hw.h0 ?_
      refine EV.astore (pc := 5) dX4_shift_5 (by decide) (by dsimp only [lst1, lk] <;> rfl) ?_
      refine EV.aload_n (pc := 7) dX4_shift_7 rfl ?_
      refine EV.iload_n (pc := 8) dX4_shift_8 rfl ?_
      refine EV.callVR1 (pc := 9) (M' := M_X4_combOf) dX4_shift_9 lkX4_122 okV_X4_combOf (m_combOf j hw hj hcn) (by decide) rfl rfl (Nat.le_of_ble_eq_true rfl) (by decide) hw.h0 ?_
      refine EV.astore (pc := 12) dX4_shift_12 (by decide) (by dsimp only [lst1, lk] <;> rfl) ?_
      refine EV.aload (pc := 14) dX4_shift_14 rfl ?_
      refine EV.ifnull (pc := 16) dX4_shift_16 ?_
      refine EV.aload (pc := 19) dX4_shift_19 rfl ?_
      refine EV.ifnonnull (pc := 21) (tgt := 28) dX4_shift_21 (by decide) ?_
      refine EV.iload_n (pc := 28) dX4_shift_28 rfl ?_
      refine EV.bipush (pc := 29) (v := -19) dX4_shift_29 (by decide) ?_
      refine EV.bipush (pc := 31) (v := 19) dX4_shift_31 (by decide) ?_
      refine EV.callSR1 (pc := 33) (M' := M_X4_within) dX4_shift_33 lkX4_106 okS_X4_within (m_within _ _ _) (by decide) rfl rfl (Nat.le_of_ble_eq_true rfl) ?_
      refine EV.if_ne (pc := 36) (tgt := 43) dX4_shift_36 (by decide) (fun c36 => ?_) (fun c36 => ?_)
      · replace c36 := b2i_T c36
        try simp only [Int32.lt_iff_toInt_lt, Int32.le_iff_toInt_le, ← Int32.toInt_inj, Int64.lt_iff_toInt_lt, Int64.le_iff_toInt_le, ← Int64.toInt_inj, Int32.toInt_toInt64, i_l0, i_l1, i_l2, i_l5, i_l19, i_m1, j_l0, j_l1, j_l5, i_l3, i_l4, i_l6, i_l7, i_l8, i_l9, i_l12, i_l16, i_l20, i_l60, i_l64, i_l100, i_l200, i_l304, i_l2000, i_l10000, i_l100000, i_l1000000, i_n1000000, i_n19, i_n101] at c36
        refine EV.aload (pc := 43) dX4_shift_43 rfl ?_
        refine EV.aload (pc := 45) dX4_shift_45 rfl ?_
        refine EV.iload_n (pc := 47) dX4_shift_47 rfl ?_
        refine EV.callSR1 (pc := 48) (M' := M_X4_crossSum) dX4_shift_48 lkX4_215 okS_X4_crossSum (m_crossSum k j x hw hk4 hj4 hbk.2.2.2 hbj.2.2.2 (by omega)) (by decide) rfl rfl (Nat.le_of_ble_eq_true rfl) ?_
        refine EV.lret (pc := 51) dX4_shift_51 trivial ?_
        exact PC.mk (by unfold f_shift; rw [if_pos ⟨hpk, hpj⟩, if_pos (by omega), nI_tn (by omega), nI_tn (by omega)]) rfl hw
      · replace c36 := b2i_F c36
        try simp only [Int32.lt_iff_toInt_lt, Int32.le_iff_toInt_le, ← Int32.toInt_inj, Int64.lt_iff_toInt_lt, Int64.le_iff_toInt_le, ← Int64.toInt_inj, Int32.toInt_toInt64, i_l0, i_l1, i_l2, i_l5, i_l19, i_m1, j_l0, j_l1, j_l5, i_l3, i_l4, i_l6, i_l7, i_l8, i_l9, i_l12, i_l16, i_l20, i_l60, i_l64, i_l100, i_l200, i_l304, i_l2000, i_l10000, i_l100000, i_l1000000, i_n1000000, i_n19, i_n101] at c36
        refine EV.ldc2 (pc := 39) dX4_shift_39 kcX4_213 ?_
        refine EV.lret (pc := 42) dX4_shift_42 trivial ?_
        exact PC.mk (by unfold f_shift; rw [if_pos ⟨hpk, hpj⟩, if_neg (by omega)]) rfl hw
    · refine MC.of (by decide +kernel) (Nat.le_of_ble_eq_true rfl) (by dsimp only [linit, Nat.reduceSub, List.reduceReplicate] <;> rfl) ?_
      refine EV.aload_n (pc := 0) dX4_shift_0 rfl ?_
      refine EV.iload_n (pc := 1) dX4_shift_1 rfl ?_
      refine EV.callVR1 (pc := 2) (M' := M_X4_combOf) dX4_shift_2 lkX4_122 okV_X4_combOf (m_combOf k hw hk hcn) (by decide) rfl rfl (Nat.le_of_ble_eq_true rfl) (by decide) hw.h0 ?_
      refine EV.astore (pc := 5) dX4_shift_5 (by decide) (by dsimp only [lst1, lk] <;> rfl) ?_
      refine EV.aload_n (pc := 7) dX4_shift_7 rfl ?_
      refine EV.iload_n (pc := 8) dX4_shift_8 rfl ?_
      refine EV.callVR1 (pc := 9) (M' := M_X4_combOf) dX4_shift_9 lkX4_122 okV_X4_combOf (m_combOfN d hw hpj hcn) (by decide) rfl rfl (Nat.le_of_ble_eq_true rfl) (by decide) hw.h0 ?_
      refine EV.astoreN (pc := 12) dX4_shift_12 (by decide) (by dsimp only [lst1, lk] <;> rfl) ?_
      refine EV.aload (pc := 14) dX4_shift_14 rfl ?_
      refine EV.ifnull (pc := 16) dX4_shift_16 ?_
      refine EV.aloadN (pc := 19) dX4_shift_19 rfl ?_
      refine EV.ifnonnullN (pc := 21) dX4_shift_21 ?_
      refine EV.ldc2 (pc := 24) dX4_shift_24 kcX4_157 ?_
      refine EV.lret (pc := 27) dX4_shift_27 trivial ?_
      exact PC.mk (by unfold f_shift; rw [if_neg (fun q => hpj q.2)]) rfl hw
  · by_cases hpj : 0 ≤ d.toInt ∧ d.toInt < s_cn s
    · obtain ⟨j, rfl, ej, lj⟩ := i_nat hpj.1
      have hj : j < s_cn s := by omega
      have hj4 : j < 4 := by omega
      have hbj := hI.2.2.2.1 j hj4
      refine MC.of (by decide +kernel) (Nat.le_of_ble_eq_true rfl) (by dsimp only [linit, Nat.reduceSub, List.reduceReplicate] <;> rfl) ?_
      refine EV.aload_n (pc := 0) dX4_shift_0 rfl ?_
      refine EV.iload_n (pc := 1) dX4_shift_1 rfl ?_
      refine EV.callVR1 (pc := 2) (M' := M_X4_combOf) dX4_shift_2 lkX4_122 okV_X4_combOf (m_combOfN c hw hpk hcn) (by decide) rfl rfl (Nat.le_of_ble_eq_true rfl) (by decide) hw.h0 ?_
      refine EV.astoreN (pc := 5) dX4_shift_5 (by decide) (by dsimp only [lst1, lk] <;> rfl) ?_
      refine EV.aload_n (pc := 7) dX4_shift_7 rfl ?_
      refine EV.iload_n (pc := 8) dX4_shift_8 rfl ?_
      refine EV.callVR1 (pc := 9) (M' := M_X4_combOf) dX4_shift_9 lkX4_122 okV_X4_combOf (m_combOf j hw hj hcn) (by decide) rfl rfl (Nat.le_of_ble_eq_true rfl) (by decide) hw.h0 ?_
      refine EV.astore (pc := 12) dX4_shift_12 (by decide) (by dsimp only [lst1, lk] <;> rfl) ?_
      refine EV.aloadN (pc := 14) dX4_shift_14 rfl ?_
      refine EV.ifnullN (pc := 16) (tgt := 24) dX4_shift_16 (by decide) ?_
      refine EV.ldc2 (pc := 24) dX4_shift_24 kcX4_157 ?_
      refine EV.lret (pc := 27) dX4_shift_27 trivial ?_
      exact PC.mk (by unfold f_shift; rw [if_neg (fun q => hpk q.1)]) rfl hw
    · refine MC.of (by decide +kernel) (Nat.le_of_ble_eq_true rfl) (by dsimp only [linit, Nat.reduceSub, List.reduceReplicate] <;> rfl) ?_
      refine EV.aload_n (pc := 0) dX4_shift_0 rfl ?_
      refine EV.iload_n (pc := 1) dX4_shift_1 rfl ?_
      refine EV.callVR1 (pc := 2) (M' := M_X4_combOf) dX4_shift_2 lkX4_122 okV_X4_combOf (m_combOfN c hw hpk hcn) (by decide) rfl rfl (Nat.le_of_ble_eq_true rfl) (by decide) hw.h0 ?_
      refine EV.astoreN (pc := 5) dX4_shift_5 (by decide) (by dsimp only [lst1, lk] <;> rfl) ?_
      refine EV.aload_n (pc := 7) dX4_shift_7 rfl ?_
      refine EV.iload_n (pc := 8) dX4_shift_8 rfl ?_
      refine EV.callVR1 (pc := 9) (M' := M_X4_combOf) dX4_shift_9 lkX4_122 okV_X4_combOf (m_combOfN d hw hpj hcn) (by decide) rfl rfl (Nat.le_of_ble_eq_true rfl) (by decide) hw.h0 ?_
      refine EV.astoreN (pc := 12) dX4_shift_12 (by decide) (by dsimp only [lst1, lk] <;> rfl) ?_
      refine EV.aloadN (pc := 14) dX4_shift_14 rfl ?_
      refine EV.ifnullN (pc := 16) (tgt := 24) dX4_shift_16 (by decide) ?_
      refine EV.ldc2 (pc := 24) dX4_shift_24 kcX4_157 ?_
      refine EV.lret (pc := 27) dX4_shift_27 trivial ?_
      exact PC.mk (by unfold f_shift; rw [if_neg (fun q => hpk q.1)]) rfl hw

def bsS (F : Int → Int64) (a : Int32 × Int64) (d : Int) : Int32 × Int64 := if a.2.toInt < (F d).toInt then (iI d, F d) else a
def bsN (F : Int → Int64) : Nat → Int32 × Int64
  | 0 => (0, F 0)
  | n + 1 => bsS F (bsS F (bsN F n) (-((n : Int) + 1))) ((n : Int) + 1)
def f_best (s : St) (c d : Int32) : Int32 := if (0 ≤ c.toInt ∧ c.toInt < s_cn s) ∧ (0 ≤ d.toInt ∧ d.toInt < s_cn s) then (if s_co s c.toInt.toNat = 0 ∨ s_co s d.toInt.toNat = 0 then -101 else (bsN (fun x => csN (s_nm s c.toInt.toNat) (s_nm s d.toInt.toNat) (s_co s d.toInt.toNat) x (s_co s c.toInt.toNat)) 8).1) else -100

def bsH (F : Int → Int64) (a : Int32 × Int64) : Prop := a.2 = F a.1.toInt ∧ -8 ≤ a.1.toInt ∧ a.1.toInt ≤ 8
theorem bsS_H {F : Int → Int64} {a : Int32 × Int64} {d : Int} (hd : -8 ≤ d ∧ d ≤ 8) (ha : bsH F a) : bsH F (bsS F a d) := by
  unfold bsS
  by_cases q : a.2.toInt < (F d).toInt
  · rw [if_pos q]
    unfold bsH
    dsimp only
    rw [iI_toInt (by omega) (by omega)]
    exact ⟨rfl, hd⟩
  · rw [if_neg q]
    exact ha
theorem bsN_H (F : Int → Int64) : ∀ n, n ≤ 8 → bsH F (bsN F n) := by
  intro n
  induction n with
  | zero => intro _; exact ⟨rfl, show -8 ≤ (0 : Int32).toInt by decide +kernel, show (0 : Int32).toInt ≤ 8 by decide +kernel⟩
  | succ n ih => intro hn; exact bsS_H (by omega) (bsS_H (by omega) (ih (by omega)))
theorem bsS_w {F : Int → Int64} {a : Int32 × Int64} {d : Int} (hd : -8 ≤ d ∧ d ≤ 8) (ha : bsH F a) : (if (F a.1.toInt).toInt < (F (iI d).toInt).toInt then iI d else a.1) = (bsS F a d).1 := by
  unfold bsS
  rw [iI_toInt (by omega) (by omega), ← ha.1]
  split <;> rfl

set_option maxHeartbeats 4000000 in
set_option maxRecDepth 100000 in
theorem m_betterShift {G : eG} {ad : Nat → Nat} {h : Nat → va_E} (k j : Nat) (a d : Int32) {s : St} {z : Zc} {hm : Nat → va_E} (hw : CW G ad s z hm h) (hk4 : k < 4) (hj4 : j < 4) (hcok : s_co s k ≤ 20) (hcoj : s_co s j ≤ 20) (ha : -1000 ≤ a.toInt ∧ a.toInt ≤ 1000) (hd : -1000 ≤ d.toInt ∧ d.toInt ≤ 1000) : MC G M_X4_betterShift cX4_betterShift ad 54 [.ref (ad (22 + 3 * k)), .ref (ad (22 + 3 * j)), .int a, .int d] h (IS (some (.int (if (csN (s_nm s k) (s_nm s j) (s_co s j) a.toInt (s_co s k)).toInt < (csN (s_nm s k) (s_nm s j) (s_co s j) d.toInt (s_co s k)).toInt then d else a))) h) := by
  refine MC.of (by decide +kernel) (Nat.le_of_ble_eq_true rfl) (by dsimp only [linit, Nat.reduceSub, List.reduceReplicate] <;> rfl) ?_
  refine EV.aload_n (pc := 0) dX4_betterShift_0 rfl ?_
  refine EV.aload_n (pc := 1) dX4_betterShift_1 rfl ?_
  refine EV.iload_n (pc := 2) dX4_betterShift_2 rfl ?_
  refine EV.callSR1 (pc := 3) (M' := M_X4_crossSum) dX4_betterShift_3 lkX4_215 okS_X4_crossSum (m_crossSum k j d hw hk4 hj4 hcok hcoj hd) (by decide) rfl rfl (Nat.le_of_ble_eq_true rfl) ?_
  refine EV.aload_n (pc := 6) dX4_betterShift_6 rfl ?_
  refine EV.aload_n (pc := 7) dX4_betterShift_7 rfl ?_
  refine EV.iload_n (pc := 8) dX4_betterShift_8 rfl ?_
  refine EV.callSR1 (pc := 9) (M' := M_X4_crossSum) dX4_betterShift_9 lkX4_215 okS_X4_crossSum (m_crossSum k j a hw hk4 hj4 hcok hcoj ha) (by decide) rfl rfl (Nat.le_of_ble_eq_true rfl) ?_
  refine EV.lcmp_le (pc := 12) (tgt := 20) dX4_betterShift_12 dX4_betterShift_13 (by decide) (fun c12 => ?_) (fun c12 => ?_)
  · refine EV.iload_n (pc := 20) dX4_betterShift_20 rfl ?_
    refine EV.iret (pc := 21) dX4_betterShift_21 trivial ?_
    rw [Int64.le_iff_toInt_le] at c12
    exact ⟨congrArg (fun z => some (Value.int z)) (by first | (rw [if_pos (by omega)]) | (rw [if_neg (by omega)])), rfl⟩
  · refine EV.iload_n (pc := 16) dX4_betterShift_16 rfl ?_
    refine EV.goto (pc := 17) (tgt := 21) dX4_betterShift_17 (by decide) ?_
    refine EV.iret (pc := 21) dX4_betterShift_21 trivial ?_
    rw [Int64.le_iff_toInt_le] at c12
    exact ⟨congrArg (fun z => some (Value.int z)) (by first | (rw [if_pos (by omega)]) | (rw [if_neg (by omega)])), rfl⟩

set_option maxHeartbeats 4000000 in
set_option maxRecDepth 100000 in
theorem l_best {G : eG} {ad : Nat → Nat} {h : Nat → va_E} {s : St} {z : Zc} {hm : Nat → va_E} (hw : CW G ad s z hm h) (k j : Nat) (hk4 : k < 4) (hj4 : j < 4) (hcok : s_co s k ≤ 20) (hcoj : s_co s j ≤ 20) (c1 c2 : Option Value) : ∀ (n u : Nat), u + n = 8 → EV G M_X4_best cX4_best none ad 54 (IS (some (.int (bsN (fun x => csN (s_nm s k) (s_nm s j) (s_co s j) x (s_co s k)) 8).1)) h) 49 [some (.ref (ad 0)), c1, c2, some (.ref (ad (22 + 3 * k))), some (.ref (ad (22 + 3 * j))), some (.int (bsN (fun x => csN (s_nm s k) (s_nm s j) (s_co s j) x (s_co s k)) u).1), some (.int (iI ((u : Int) + 1)))] [] h := by
  intro n
  induction n with
  | zero =>
    intro u hu
    have e : u = 8 := by omega
    subst e
    refine EV.iload (pc := 49) dX4_best_49 rfl ?_
    refine EV.bipush (pc := 51) (v := 8) dX4_best_51 (by decide) ?_
    refine EV.icmp_gt (pc := 53) (tgt := 87) dX4_best_53 (by decide) (fun _ => ?_) (fun q => absurd (by rw [Int32.lt_iff_toInt_lt, i_l8, iI_toInt (by omega) (by omega)]; omega) q)
    refine EV.iload (pc := 87) dX4_best_87 rfl ?_
    exact EV.iret (pc := 89) dX4_best_89 trivial ⟨rfl, rfl⟩
  | succ n ih =>
    intro u hu
    have H0 := bsN_H (fun x => csN (s_nm s k) (s_nm s j) (s_co s j) x (s_co s k)) u (by omega)
    have H1 := bsS_H (d := (-((u : Int) + 1))) (by omega) H0
    have b0 := H0.2
    have b1 := H1.2
    refine EV.iload (pc := 49) dX4_best_49 rfl ?_
    refine EV.bipush (pc := 51) (v := 8) dX4_best_51 (by decide) ?_
    refine EV.icmp_gt (pc := 53) (tgt := 87) dX4_best_53 (by decide) (fun q => absurd q (by rw [Int32.lt_iff_toInt_lt, i_l8, iI_toInt (by omega) (by omega)]; omega)) (fun _ => ?_)
    refine EV.aload_n (pc := 56) dX4_best_56 rfl ?_
    refine EV.aload (pc := 57) dX4_best_57 rfl ?_
    refine EV.iload (pc := 59) dX4_best_59 rfl ?_
    refine EV.iload (pc := 61) dX4_best_61 rfl ?_
    refine EV.ineg (pc := 63) dX4_best_63 ?_
    refine EV.topi (y := iI (-((u : Int) + 1))) (iI_neg _) ?_
    refine EV.callSR1 (pc := 64) (M' := M_X4_betterShift) dX4_best_64 lkX4_219 okS_X4_betterShift (m_betterShift k j (bsN (fun x => csN (s_nm s k) (s_nm s j) (s_co s j) x (s_co s k)) u).1 (iI (-((u : Int) + 1))) hw hk4 hj4 hcok hcoj (by omega) (by rw [iI_toInt (by omega) (by omega)]; omega)) (by decide) rfl rfl (Nat.le_of_ble_eq_true rfl) ?_
    refine EV.topi (y := (bsS (fun x => csN (s_nm s k) (s_nm s j) (s_co s j) x (s_co s k)) (bsN (fun x => csN (s_nm s k) (s_nm s j) (s_co s j) x (s_co s k)) u) (-((u : Int) + 1))).1) (bsS_w (F := (fun x => csN (s_nm s k) (s_nm s j) (s_co s j) x (s_co s k))) (a := bsN (fun x => csN (s_nm s k) (s_nm s j) (s_co s j) x (s_co s k)) u) (d := (-((u : Int) + 1))) (by omega) H0) ?_
    refine EV.istore (pc := 67) dX4_best_67 (by decide) (by dsimp only [lst1, lk] <;> rfl) ?_
    refine EV.aload_n (pc := 69) dX4_best_69 rfl ?_
    refine EV.aload (pc := 70) dX4_best_70 rfl ?_
    refine EV.iload (pc := 72) dX4_best_72 rfl ?_
    refine EV.iload (pc := 74) dX4_best_74 rfl ?_
    refine EV.callSR1 (pc := 76) (M' := M_X4_betterShift) dX4_best_76 lkX4_219 okS_X4_betterShift (m_betterShift k j (bsS (fun x => csN (s_nm s k) (s_nm s j) (s_co s j) x (s_co s k)) (bsN (fun x => csN (s_nm s k) (s_nm s j) (s_co s j) x (s_co s k)) u) (-((u : Int) + 1))).1 (iI ((u : Int) + 1)) hw hk4 hj4 hcok hcoj (by omega) (by rw [iI_toInt (by omega) (by omega)]; omega)) (by decide) rfl rfl (Nat.le_of_ble_eq_true rfl) ?_
    refine EV.topi (y := (bsN (fun x => csN (s_nm s k) (s_nm s j) (s_co s j) x (s_co s k)) (u + 1)).1) (bsS_w (F := (fun x => csN (s_nm s k) (s_nm s j) (s_co s j) x (s_co s k))) (a := (bsS (fun x => csN (s_nm s k) (s_nm s j) (s_co s j) x (s_co s k)) (bsN (fun x => csN (s_nm s k) (s_nm s j) (s_co s j) x (s_co s k)) u) (-((u : Int) + 1)))) (d := ((u : Int) + 1)) (by omega) H1) ?_
    refine EV.istore (pc := 79) dX4_best_79 (by decide) (by dsimp only [lst1, lk] <;> rfl) ?_
    refine EV.iinc (pc := 81) dX4_best_81 (by decide) rfl (show iI ((u : Int) + 1) + Int32.ofInt 1 = iI (((u + 1 : Nat) : Int) + 1) from by rw [show Int32.ofInt 1 = iI 1 from rfl, iI_add]; rfl) (by dsimp only [lst1, lk] <;> rfl) ?_
    refine EV.goto (pc := 84) (tgt := 49) dX4_best_84 (by decide) ?_
    exact ih (u + 1) (by omega)

set_option maxHeartbeats 4000000 in
set_option maxRecDepth 100000 in
theorem p_best {G : eG} {ad : Nat → Nat} {h : Nat → va_E} {s : St} {z : Zc} {hm : Nat → va_E} (hw : CW G ad s z hm h) (hI : Inv s) (c d : Int32)  : MC G M_X4_best cX4_best ad 54 [.ref (ad 0), .int c, .int d] h (PC G ad hm (.int (f_best s c d)) s) := by
  have hcn : s_cn s ≤ 4 := hI.2.2.1
  by_cases hpk : 0 ≤ c.toInt ∧ c.toInt < s_cn s
  · obtain ⟨k, rfl, ek, lk⟩ := i_nat hpk.1
    have hk : k < s_cn s := by omega
    have hk4 : k < 4 := by omega
    have hbk := hI.2.2.2.1 k hk4
    by_cases hpj : 0 ≤ d.toInt ∧ d.toInt < s_cn s
    · obtain ⟨j, rfl, ej, lj⟩ := i_nat hpj.1
      have hj : j < s_cn s := by omega
      have hj4 : j < 4 := by omega
      have hbj := hI.2.2.2.1 j hj4
      have en1 := nI_t (show s_co s k < 2147483648 by omega)
      have en2 := nI_t (show s_co s j < 2147483648 by omega)
      have q0 : ∀ {pc : Nat} {lv : List (Option Value)} {st : List Value}, EV G M_X4_best cX4_best none ad 54 (IS (some (.int (bsN (fun x => csN (s_nm s k) (s_nm s j) (s_co s j) x (s_co s k)) 8).1)) h) pc lv st h → EV G M_X4_best cX4_best none ad 54 (PC G ad hm (.int (bsN (fun x => csN (s_nm s k) (s_nm s j) (s_co s j) x (s_co s k)) 8).1) s) pc lv st h := fun q => EV.mono q (fun v h2 r => ⟨r.1, z, by rw [r.2]; exact hw⟩)
      refine MC.of (by decide +kernel) (Nat.le_of_ble_eq_true rfl) (by dsimp only [linit, Nat.reduceSub, List.reduceReplicate] <;> rfl) ?_
      refine EV.aload_n (pc := 0) dX4_best_0 rfl ?_
      refine EV.iload_n (pc := 1) dX4_best_1 rfl ?_
      refine EV.callVR1 (pc := 2) (M' := M_X4_combOf) dX4_best_2 lkX4_122 okV_X4_combOf (m_combOf k hw hk hcn) (by decide) rfl rfl (Nat.le_of_ble_eq_true rfl) (by decide) hw.h0 ?_
      refine EV.astore_n (pc := 5) 3 dX4_best_5 rfl (by decide) (by dsimp only [lst1, lk] <;> rfl) ?_
      refine EV.aload_n (pc := 6) dX4_best_6 rfl ?_
      refine EV.iload_n (pc := 7) dX4_best_7 rfl ?_
      refine EV.callVR1 (pc := 8) (M' := M_X4_combOf) dX4_best_8 lkX4_122 okV_X4_combOf (m_combOf j hw hj hcn) (by decide) rfl rfl (Nat.le_of_ble_eq_true rfl) (by decide) hw.h0 ?_
      refine EV.astore (pc := 11) dX4_best_11 (by decide) (by dsimp only [lst1, lk] <;> rfl) ?_
      refine EV.aload_n (pc := 13) dX4_best_13 rfl ?_
      refine EV.ifnull (pc := 14) dX4_best_14 ?_
      refine EV.aload (pc := 17) dX4_best_17 rfl ?_
      refine EV.ifnonnull (pc := 19) (tgt := 25) dX4_best_19 (by decide) ?_
      refine EV.aload_n (pc := 25) dX4_best_25 rfl ?_
      refine EV.getf (pc := 26) dX4_best_26 fgX4_141 (show 22 + 3 * k < 54 by omega) (hw.kb' hk4) rfl ?_
      refine EV.if_eq (pc := 29) (tgt := 40) dX4_best_29 (by decide) (fun c29 => ?_) (fun c29 => ?_)
      · try simp only [Int32.lt_iff_toInt_lt, Int32.le_iff_toInt_le, ← Int32.toInt_inj, Int64.lt_iff_toInt_lt, Int64.le_iff_toInt_le, ← Int64.toInt_inj, Int32.toInt_toInt64, i_l0, i_l1, i_l2, i_l5, i_l19, i_m1, j_l0, j_l1, j_l5, i_l3, i_l4, i_l6, i_l7, i_l8, i_l9, i_l12, i_l16, i_l20, i_l60, i_l64, i_l100, i_l200, i_l304, i_l2000, i_l10000, i_l100000, i_l1000000, i_n1000000, i_n19, i_n101, en1, en2] at c29
        refine EV.bipush (pc := 40) (v := -101) dX4_best_40 (by decide) ?_
        refine EV.iret (pc := 42) dX4_best_42 trivial ?_
        exact PC.mk (by unfold f_best; rw [if_pos ⟨hpk, hpj⟩, nI_tn (by omega), nI_tn (by omega), if_pos (by omega)]) rfl hw
      · try simp only [Int32.lt_iff_toInt_lt, Int32.le_iff_toInt_le, ← Int32.toInt_inj, Int64.lt_iff_toInt_lt, Int64.le_iff_toInt_le, ← Int64.toInt_inj, Int32.toInt_toInt64, i_l0, i_l1, i_l2, i_l5, i_l19, i_m1, j_l0, j_l1, j_l5, i_l3, i_l4, i_l6, i_l7, i_l8, i_l9, i_l12, i_l16, i_l20, i_l60, i_l64, i_l100, i_l200, i_l304, i_l2000, i_l10000, i_l100000, i_l1000000, i_n1000000, i_n19, i_n101, en1, en2] at c29
        refine EV.aload (pc := 32) dX4_best_32 rfl ?_
        refine EV.getf (pc := 34) dX4_best_34 fgX4_141 (show 22 + 3 * j < 54 by omega) (hw.kb' hj4) rfl ?_
        refine EV.if_ne (pc := 37) (tgt := 43) dX4_best_37 (by decide) (fun c37 => ?_) (fun c37 => ?_)
        · try simp only [Int32.lt_iff_toInt_lt, Int32.le_iff_toInt_le, ← Int32.toInt_inj, Int64.lt_iff_toInt_lt, Int64.le_iff_toInt_le, ← Int64.toInt_inj, Int32.toInt_toInt64, i_l0, i_l1, i_l2, i_l5, i_l19, i_m1, j_l0, j_l1, j_l5, i_l3, i_l4, i_l6, i_l7, i_l8, i_l9, i_l12, i_l16, i_l20, i_l60, i_l64, i_l100, i_l200, i_l304, i_l2000, i_l10000, i_l100000, i_l1000000, i_n1000000, i_n19, i_n101, en1, en2] at c37
          refine EV.iconst (pc := 43) (v := 0) dX4_best_43 (by decide) ?_
          refine EV.istore (pc := 44) dX4_best_44 (by decide) (by dsimp only [lst1, lk] <;> rfl) ?_
          refine EV.iconst (pc := 46) (v := 1) dX4_best_46 (by decide) ?_
          refine EV.istore (pc := 47) dX4_best_47 (by decide) (by dsimp only [lst1, lk] <;> rfl) ?_
          have e0 : f_best s (nI k) (nI j) = (bsN (fun x => csN (s_nm s k) (s_nm s j) (s_co s j) x (s_co s k)) 8).1 := by unfold f_best; rw [if_pos ⟨hpk, hpj⟩, nI_tn (by omega), nI_tn (by omega), if_neg (by omega)]
          rw [e0]
          exact q0 (l_best hw k j hk4 hj4 hbk.2.2.2 hbj.2.2.2 _ _ 8 0 rfl)
        · try simp only [Int32.lt_iff_toInt_lt, Int32.le_iff_toInt_le, ← Int32.toInt_inj, Int64.lt_iff_toInt_lt, Int64.le_iff_toInt_le, ← Int64.toInt_inj, Int32.toInt_toInt64, i_l0, i_l1, i_l2, i_l5, i_l19, i_m1, j_l0, j_l1, j_l5, i_l3, i_l4, i_l6, i_l7, i_l8, i_l9, i_l12, i_l16, i_l20, i_l60, i_l64, i_l100, i_l200, i_l304, i_l2000, i_l10000, i_l100000, i_l1000000, i_n1000000, i_n19, i_n101, en1, en2] at c37
          refine EV.bipush (pc := 40) (v := -101) dX4_best_40 (by decide) ?_
          refine EV.iret (pc := 42) dX4_best_42 trivial ?_
          exact PC.mk (by unfold f_best; rw [if_pos ⟨hpk, hpj⟩, nI_tn (by omega), nI_tn (by omega), if_pos (by omega)]) rfl hw
    · refine MC.of (by decide +kernel) (Nat.le_of_ble_eq_true rfl) (by dsimp only [linit, Nat.reduceSub, List.reduceReplicate] <;> rfl) ?_
      refine EV.aload_n (pc := 0) dX4_best_0 rfl ?_
      refine EV.iload_n (pc := 1) dX4_best_1 rfl ?_
      refine EV.callVR1 (pc := 2) (M' := M_X4_combOf) dX4_best_2 lkX4_122 okV_X4_combOf (m_combOf k hw hk hcn) (by decide) rfl rfl (Nat.le_of_ble_eq_true rfl) (by decide) hw.h0 ?_
      refine EV.astore_n (pc := 5) 3 dX4_best_5 rfl (by decide) (by dsimp only [lst1, lk] <;> rfl) ?_
      refine EV.aload_n (pc := 6) dX4_best_6 rfl ?_
      refine EV.iload_n (pc := 7) dX4_best_7 rfl ?_
      refine EV.callVR1 (pc := 8) (M' := M_X4_combOf) dX4_best_8 lkX4_122 okV_X4_combOf (m_combOfN d hw hpj hcn) (by decide) rfl rfl (Nat.le_of_ble_eq_true rfl) (by decide) hw.h0 ?_
      refine EV.astoreN (pc := 11) dX4_best_11 (by decide) (by dsimp only [lst1, lk] <;> rfl) ?_
      refine EV.aload_n (pc := 13) dX4_best_13 rfl ?_
      refine EV.ifnull (pc := 14) dX4_best_14 ?_
      refine EV.aloadN (pc := 17) dX4_best_17 rfl ?_
      refine EV.ifnonnullN (pc := 19) dX4_best_19 ?_
      refine EV.bipush (pc := 22) (v := -100) dX4_best_22 (by decide) ?_
      refine EV.iret (pc := 24) dX4_best_24 trivial ?_
      exact PC.mk (by unfold f_best; rw [if_neg (fun q => hpj q.2)]) rfl hw
  · by_cases hpj : 0 ≤ d.toInt ∧ d.toInt < s_cn s
    · obtain ⟨j, rfl, ej, lj⟩ := i_nat hpj.1
      have hj : j < s_cn s := by omega
      have hj4 : j < 4 := by omega
      have hbj := hI.2.2.2.1 j hj4
      refine MC.of (by decide +kernel) (Nat.le_of_ble_eq_true rfl) (by dsimp only [linit, Nat.reduceSub, List.reduceReplicate] <;> rfl) ?_
      refine EV.aload_n (pc := 0) dX4_best_0 rfl ?_
      refine EV.iload_n (pc := 1) dX4_best_1 rfl ?_
      refine EV.callVR1 (pc := 2) (M' := M_X4_combOf) dX4_best_2 lkX4_122 okV_X4_combOf (m_combOfN c hw hpk hcn) (by decide) rfl rfl (Nat.le_of_ble_eq_true rfl) (by decide) hw.h0 ?_
      refine EV.astoreN_n (pc := 5) 3 dX4_best_5 rfl (by decide) (by dsimp only [lst1, lk] <;> rfl) ?_
      refine EV.aload_n (pc := 6) dX4_best_6 rfl ?_
      refine EV.iload_n (pc := 7) dX4_best_7 rfl ?_
      refine EV.callVR1 (pc := 8) (M' := M_X4_combOf) dX4_best_8 lkX4_122 okV_X4_combOf (m_combOf j hw hj hcn) (by decide) rfl rfl (Nat.le_of_ble_eq_true rfl) (by decide) hw.h0 ?_
      refine EV.astore (pc := 11) dX4_best_11 (by decide) (by dsimp only [lst1, lk] <;> rfl) ?_
      refine EV.aloadN_n (pc := 13) dX4_best_13 rfl ?_
      refine EV.ifnullN (pc := 14) (tgt := 22) dX4_best_14 (by decide) ?_
      refine EV.bipush (pc := 22) (v := -100) dX4_best_22 (by decide) ?_
      refine EV.iret (pc := 24) dX4_best_24 trivial ?_
      exact PC.mk (by unfold f_best; rw [if_neg (fun q => hpk q.1)]) rfl hw
    · refine MC.of (by decide +kernel) (Nat.le_of_ble_eq_true rfl) (by dsimp only [linit, Nat.reduceSub, List.reduceReplicate] <;> rfl) ?_
      refine EV.aload_n (pc := 0) dX4_best_0 rfl ?_
      refine EV.iload_n (pc := 1) dX4_best_1 rfl ?_
      refine EV.callVR1 (pc := 2) (M' := M_X4_combOf) dX4_best_2 lkX4_122 okV_X4_combOf (m_combOfN c hw hpk hcn) (by decide) rfl rfl (Nat.le_of_ble_eq_true rfl) (by decide) hw.h0 ?_
      refine EV.astoreN_n (pc := 5) 3 dX4_best_5 rfl (by decide) (by dsimp only [lst1, lk] <;> rfl) ?_
      refine EV.aload_n (pc := 6) dX4_best_6 rfl ?_
      refine EV.iload_n (pc := 7) dX4_best_7 rfl ?_
      refine EV.callVR1 (pc := 8) (M' := M_X4_combOf) dX4_best_8 lkX4_122 okV_X4_combOf (m_combOfN d hw hpj hcn) (by decide) rfl rfl (Nat.le_of_ble_eq_true rfl) (by decide) hw.h0 ?_
      refine EV.astoreN (pc := 11) dX4_best_11 (by decide) (by dsimp only [lst1, lk] <;> rfl) ?_
      refine EV.aloadN_n (pc := 13) dX4_best_13 rfl ?_
      refine EV.ifnullN (pc := 14) (tgt := 22) dX4_best_14 (by decide) ?_
      refine EV.bipush (pc := 22) (v := -100) dX4_best_22 (by decide) ?_
      refine EV.iret (pc := 24) dX4_best_24 trivial ?_
      exact PC.mk (by unfold f_best; rw [if_neg (fun q => hpk q.1)]) rfl hw
