def b2i (b : Bool) : Int32 := if b then 1 else 0
theorem b2i_1 {p : Prop} {i : Decidable p} (h : p) : (1 : Int32) = b2i (@decide p i) := by simp [b2i, h]
theorem b2i_0 {p : Prop} {i : Decidable p} (h : ¬ p) : (0 : Int32) = b2i (@decide p i) := by simp [b2i, h]
theorem b2i_T {p : Prop} {i : Decidable p} (h : ¬ b2i (@decide p i) = 0) : p := by
  by_cases q : p
  · exact q
  · exact absurd (b2i_0 q).symm h
theorem b2i_F {p : Prop} {i : Decidable p} (h : b2i (@decide p i) = 0) : ¬ p := fun q => by
  rw [← b2i_1 q] at h
  exact absurd h (by decide)
theorem b2i_ne {b : Bool} (h : ¬ b2i b = 0) : b = true := by cases b <;> simp [b2i] at h ⊢
theorem b2i_eq {b : Bool} (h : b2i b = 0) : b = false := by cases b <;> simp [b2i] at h ⊢
theorem b2i_nar (b : Bool) : narrow .boolean (.int (b2i b)) = .int (b2i b) := by cases b <;> rfl
theorem b2i_vp (b : Bool) : vp_nar .boolean (b2i b) = b2i b := by cases b <;> rfl
theorem b2i_fit (b : Bool) : fits .boolean (.int (b2i b)) = true := by cases b <;> rfl
theorem b2i_true : b2i true = 1 := rfl
theorem b2i_false : b2i false = 0 := rfl
theorem i_l0 : (0 : Int32).toInt = 0 := by decide +kernel
theorem i_l1 : (1 : Int32).toInt = 1 := by decide +kernel
theorem i_l2 : (2 : Int32).toInt = 2 := by decide +kernel
theorem i_l5 : (5 : Int32).toInt = 5 := by decide +kernel
theorem i_l19 : (19 : Int32).toInt = 19 := by decide +kernel
theorem i_m1 : (-1 : Int32).toInt = -1 := by decide +kernel
theorem j_l0 : (0 : Int64).toInt = 0 := by decide +kernel
theorem j_l1 : (1 : Int64).toInt = 1 := by decide +kernel
theorem j_l5 : (5 : Int64).toInt = 5 := by decide +kernel
def iWithin (v a b : Int32) : Prop := a.toInt ≤ v.toInt ∧ v.toInt ≤ b.toInt
def iCast (v lane : Int32) : Int32 := if lane = 0 then v.toInt8.toInt32 else if lane = 1 then v.toInt16.toInt32 else v
theorem i_xor_neg (x y : Int32) (hy : 0 < y.toInt) : 0 ≤ (x ^^^ y).toInt ↔ 0 ≤ x.toInt := by
  have h1 : (x ^^^ y).toBitVec.msb = (x.toBitVec.msb ^^ y.toBitVec.msb) := by
    rw [Int32.toBitVec_xor, BitVec.msb_xor]
  rw [BitVec.msb_eq_toInt, BitVec.msb_eq_toInt, BitVec.msb_eq_toInt] at h1
  have e1 : (x ^^^ y).toBitVec.toInt = (x ^^^ y).toInt := rfl
  have e2 : x.toBitVec.toInt = x.toInt := rfl
  have e3 : y.toBitVec.toInt = y.toInt := rfl
  rw [e1, e2, e3, decide_eq_false (show ¬ y.toInt < 0 by omega), Bool.xor_false] at h1
  have := decide_eq_decide.mp h1
  omega
theorem j_xor_neg (x y : Int64) (hy : 0 < y.toInt) : 0 ≤ (x ^^^ y).toInt ↔ 0 ≤ x.toInt := by
  have h1 : (x ^^^ y).toBitVec.msb = (x.toBitVec.msb ^^ y.toBitVec.msb) := by
    rw [Int64.toBitVec_xor, BitVec.msb_xor]
  rw [BitVec.msb_eq_toInt, BitVec.msb_eq_toInt, BitVec.msb_eq_toInt] at h1
  have e1 : (x ^^^ y).toBitVec.toInt = (x ^^^ y).toInt := rfl
  have e2 : x.toBitVec.toInt = x.toInt := rfl
  have e3 : y.toBitVec.toInt = y.toInt := rfl
  rw [e1, e2, e3, decide_eq_false (show ¬ y.toInt < 0 by omega), Bool.xor_false] at h1
  have := decide_eq_decide.mp h1
  omega
theorem i_ne0 {y : Int32} (hy : 0 < y.toInt) : ¬ y = 0 := fun q => by rw [q] at hy; exact absurd hy (by decide +kernel)
theorem j_ne0 {y : Int64} (hy : 0 < y.toInt) : ¬ y = 0 := fun q => by rw [q] at hy; exact absurd hy (by decide +kernel)
/-- rounding down, for a divisor above 0 -/
theorem i_fd1 {x y : Int32} (hy : 0 < y.toInt) (hx : 0 ≤ x.toInt) : x / y = iI (x.toInt / y.toInt) := by
  rw [← fl_pos hx, ← iI_tdiv (i_lo x) (i_hi x) hy (i_hi y), iI_of, iI_of]
theorem i_fdT {x y : Int32} (hy : 0 < y.toInt) : x / y = iI (x.toInt.tdiv y.toInt) := by
  rw [← iI_tdiv (i_lo x) (i_hi x) hy (i_hi y), iI_of, iI_of]
theorem j_fdT {x y : Int64} (hy : 0 < y.toInt) : x / y = jI (x.toInt.tdiv y.toInt) := by
  rw [← jI_tdiv (j_lo x) (j_hi x) hy (j_hi y), jI_of, jI_of]
theorem td_bound {a b : Int} (hb : 0 < b) : -(a.natAbs : Int) ≤ a.tdiv b * b ∧ a.tdiv b * b ≤ (a.natAbs : Int) := by
  have h := Int.mul_tdiv_add_tmod a b
  by_cases ha : 0 ≤ a
  · have h1 := Int.tmod_nonneg b ha
    have h2 : 0 ≤ a.tdiv b := Int.tdiv_nonneg ha (by omega)
    have h3 : 0 ≤ a.tdiv b * b := Int.mul_nonneg h2 (by omega)
    rw [Int.mul_comm] at h
    omega
  · have e : a.tdiv b = -((-a).tdiv b) := by rw [Int.neg_tdiv]; omega
    have h' := Int.mul_tdiv_add_tmod (-a) b
    have h1 := Int.tmod_nonneg b (show 0 ≤ -a by omega)
    have h2 : 0 ≤ (-a).tdiv b := Int.tdiv_nonneg (by omega) (by omega)
    have h3 : 0 ≤ (-a).tdiv b * b := Int.mul_nonneg h2 (by omega)
    rw [Int.mul_comm] at h'
    rw [e, Int.neg_mul]
    omega
theorem i_td {x y : Int32} (hy : 0 < y.toInt) : (x / y * y = x) ↔ x.toInt.tdiv y.toInt * y.toInt = x.toInt := by
  have hb := td_bound (a := x.toInt) hy
  have h1 := i_lo x
  have h2 := i_hi x
  conv => lhs; rw [i_fdT hy]; arg 1; arg 2; rw [← iI_of y]
  rw [iI_mul]
  constructor
  · intro h
    have h3 := congrArg Int32.toInt h
    by_cases hm : x.toInt.tdiv y.toInt * y.toInt < 2147483648
    · rw [iI_toInt (by omega) hm] at h3
      exact h3
    · exfalso
      have h4 : x.toInt = -2147483648 := by omega
      have h5 : x.toInt.tdiv y.toInt ≤ 0 := by
        rw [h4, Int.neg_tdiv]
        have : 0 ≤ (2147483648 : Int).tdiv y.toInt := Int.tdiv_nonneg (by omega) (by omega)
        omega
      have h6 : x.toInt.tdiv y.toInt * y.toInt ≤ 0 := Int.mul_nonpos_of_nonpos_of_nonneg h5 (by omega)
      omega
  · intro h
    rw [h, iI_of]
theorem j_td {x y : Int64} (hy : 0 < y.toInt) : (x / y * y = x) ↔ x.toInt.tdiv y.toInt * y.toInt = x.toInt := by
  have hb := td_bound (a := x.toInt) hy
  have h1 := j_lo x
  have h2 := j_hi x
  conv => lhs; rw [j_fdT hy]; arg 1; arg 2; rw [← jI_of y]
  rw [jI_mul]
  constructor
  · intro h
    have h3 := congrArg Int64.toInt h
    by_cases hm : x.toInt.tdiv y.toInt * y.toInt < 9223372036854775808
    · rw [jI_toInt (by omega) hm] at h3
      exact h3
    · exfalso
      have h4 : x.toInt = -9223372036854775808 := by omega
      have h5 : x.toInt.tdiv y.toInt ≤ 0 := by
        rw [h4, Int.neg_tdiv]
        have : 0 ≤ (9223372036854775808 : Int).tdiv y.toInt := Int.tdiv_nonneg (by omega) (by omega)
        omega
      have h6 : x.toInt.tdiv y.toInt * y.toInt ≤ 0 := Int.mul_nonpos_of_nonpos_of_nonneg h5 (by omega)
      omega
  · intro h
    rw [h, jI_of]
theorem i_fd2 {x y : Int32} (hy : 0 < y.toInt) (hx : ¬ 0 ≤ x.toInt) (he : x / y * y = x) : x / y = iI (x.toInt / y.toInt) := by
  rw [← fl_neg_exact hy ((i_td hy).mp he), i_fdT hy]
theorem i_fd3 {x y : Int32} (hy : 0 < y.toInt) (hx : ¬ 0 ≤ x.toInt) (he : ¬ x / y * y = x) : x / y - 1 = iI (x.toInt / y.toInt) := by
  rw [← fl_neg hy (by omega) (fun q => he ((i_td hy).mpr q)), i_fdT hy, show (1 : Int32) = iI 1 from iI_lit 1, iI_sub]
theorem j_fd1 {x y : Int64} (hy : 0 < y.toInt) (hx : 0 ≤ x.toInt) : x / y = jI (x.toInt / y.toInt) := by
  rw [← fl_pos hx, ← jI_tdiv (j_lo x) (j_hi x) hy (j_hi y), jI_of, jI_of]
theorem j_fd2 {x y : Int64} (hy : 0 < y.toInt) (he : x / y * y = x) : x / y = jI (x.toInt / y.toInt) := by
  rw [← fl_neg_exact hy ((j_td hy).mp he), j_fdT hy]
theorem j_fd3 {x y : Int64} (hy : 0 < y.toInt) (hx : ¬ 0 ≤ x.toInt) (he : ¬ x / y * y = x) : x / y - 1 = jI (x.toInt / y.toInt) := by
  rw [← fl_neg hy (by omega) (fun q => he ((j_td hy).mpr q)), j_fdT hy, show (1 : Int64) = jI 1 from jI_lit 1, jI_sub]
theorem j_rem0 {x y : Int64} : (x - x / y * y = 0) ↔ x / y * y = x := by
  generalize x / y * y = z
  constructor
  · intro h
    have := Int64.sub_eq_iff_eq_add.mp h
    rw [Int64.zero_add] at this
    exact this.symm
  · intro h
    rw [h, Int64.sub_self]

set_option maxHeartbeats 4000000 in
set_option maxRecDepth 100000 in
theorem m_within {G : eG} {ad : Nat → Nat} {h : Nat → va_E} (v a b : Int32)  : MC G M_X4_within cX4_within ad 54 [.int v, .int a, .int b] h (IS (some (.int (b2i (decide (a.toInt ≤ v.toInt ∧ v.toInt ≤ b.toInt))))) h) := by
  refine MC.of (by decide +kernel) (Nat.le_of_ble_eq_true rfl) (by dsimp only [linit, Nat.reduceSub, List.reduceReplicate] <;> rfl) ?_
  refine EV.iload_n (pc := 0) dX4_within_0 rfl ?_
  refine EV.iload_n (pc := 1) dX4_within_1 rfl ?_
  refine EV.icmp_lt (pc := 2) (tgt := 14) dX4_within_2 (by decide) (fun c2 => ?_) (fun c2 => ?_)
  · refine EV.iconst (pc := 14) (v := 0) dX4_within_14 (by decide) ?_
    refine EV.iret (pc := 15) dX4_within_15 (by rfl) ?_
    exact ⟨congrArg (fun z => some (Value.int z)) (by first | exact b2i_1 (by (try simp only [Int32.lt_iff_toInt_lt, Int32.le_iff_toInt_le, ← Int32.toInt_inj, Int64.lt_iff_toInt_lt, Int64.le_iff_toInt_le, ← Int64.toInt_inj, i_l0, i_l1, i_l2, i_l5, i_l19, i_m1, j_l0, j_l1, j_l5, Int32.toInt_toInt64] at *); omega) | exact b2i_0 (by (try simp only [Int32.lt_iff_toInt_lt, Int32.le_iff_toInt_le, ← Int32.toInt_inj, Int64.lt_iff_toInt_lt, Int64.le_iff_toInt_le, ← Int64.toInt_inj, i_l0, i_l1, i_l2, i_l5, i_l19, i_m1, j_l0, j_l1, j_l5, Int32.toInt_toInt64] at *); omega)), rfl⟩
  · refine EV.iload_n (pc := 5) dX4_within_5 rfl ?_
    refine EV.iload_n (pc := 6) dX4_within_6 rfl ?_
    refine EV.icmp_gt (pc := 7) (tgt := 14) dX4_within_7 (by decide) (fun c7 => ?_) (fun c7 => ?_)
    · refine EV.iconst (pc := 14) (v := 0) dX4_within_14 (by decide) ?_
      refine EV.iret (pc := 15) dX4_within_15 (by rfl) ?_
      exact ⟨congrArg (fun z => some (Value.int z)) (by first | exact b2i_1 (by (try simp only [Int32.lt_iff_toInt_lt, Int32.le_iff_toInt_le, ← Int32.toInt_inj, Int64.lt_iff_toInt_lt, Int64.le_iff_toInt_le, ← Int64.toInt_inj, i_l0, i_l1, i_l2, i_l5, i_l19, i_m1, j_l0, j_l1, j_l5, Int32.toInt_toInt64] at *); omega) | exact b2i_0 (by (try simp only [Int32.lt_iff_toInt_lt, Int32.le_iff_toInt_le, ← Int32.toInt_inj, Int64.lt_iff_toInt_lt, Int64.le_iff_toInt_le, ← Int64.toInt_inj, i_l0, i_l1, i_l2, i_l5, i_l19, i_m1, j_l0, j_l1, j_l5, Int32.toInt_toInt64] at *); omega)), rfl⟩
    · refine EV.iconst (pc := 10) (v := 1) dX4_within_10 (by decide) ?_
      refine EV.goto (pc := 11) (tgt := 15) dX4_within_11 (by decide) ?_
      refine EV.iret (pc := 15) dX4_within_15 (by rfl) ?_
      exact ⟨congrArg (fun z => some (Value.int z)) (by first | exact b2i_1 (by (try simp only [Int32.lt_iff_toInt_lt, Int32.le_iff_toInt_le, ← Int32.toInt_inj, Int64.lt_iff_toInt_lt, Int64.le_iff_toInt_le, ← Int64.toInt_inj, i_l0, i_l1, i_l2, i_l5, i_l19, i_m1, j_l0, j_l1, j_l5, Int32.toInt_toInt64] at *); omega) | exact b2i_0 (by (try simp only [Int32.lt_iff_toInt_lt, Int32.le_iff_toInt_le, ← Int32.toInt_inj, Int64.lt_iff_toInt_lt, Int64.le_iff_toInt_le, ← Int64.toInt_inj, i_l0, i_l1, i_l2, i_l5, i_l19, i_m1, j_l0, j_l1, j_l5, Int32.toInt_toInt64] at *); omega)), rfl⟩

set_option maxHeartbeats 4000000 in
set_option maxRecDepth 100000 in
theorem m_castToLane {G : eG} {ad : Nat → Nat} {h : Nat → va_E} (v a : Int32)  : MC G M_X4_castToLane cX4_castToLane ad 54 [.int v, .int a] h (IS (some (.int (iCast v a))) h) := by
  refine MC.of (by decide +kernel) (Nat.le_of_ble_eq_true rfl) (by dsimp only [linit, Nat.reduceSub, List.reduceReplicate] <;> rfl) ?_
  refine EV.iload_n (pc := 0) dX4_castToLane_0 rfl ?_
  refine EV.if_ne (pc := 1) (tgt := 7) dX4_castToLane_1 (by decide) (fun c1 => ?_) (fun c1 => ?_)
  · refine EV.iload_n (pc := 7) dX4_castToLane_7 rfl ?_
    refine EV.iconst (pc := 8) (v := 1) dX4_castToLane_8 (by decide) ?_
    refine EV.icmp_ne (pc := 9) (tgt := 17) dX4_castToLane_9 (by decide) (fun c9 => ?_) (fun c9 => ?_)
    · refine EV.iload_n (pc := 17) dX4_castToLane_17 rfl ?_
      refine EV.iret (pc := 18) dX4_castToLane_18 trivial ?_
      exact ⟨congrArg (fun z => some (Value.int z)) (by simp [iCast, *]), rfl⟩
    · refine EV.iload_n (pc := 12) dX4_castToLane_12 rfl ?_
      refine EV.i2s (pc := 13) dX4_castToLane_13 ?_
      refine EV.goto (pc := 14) (tgt := 18) dX4_castToLane_14 (by decide) ?_
      refine EV.iret (pc := 18) dX4_castToLane_18 trivial ?_
      exact ⟨congrArg (fun z => some (Value.int z)) (by simp [iCast, *]), rfl⟩
  · refine EV.iload_n (pc := 4) dX4_castToLane_4 rfl ?_
    refine EV.i2b (pc := 5) dX4_castToLane_5 ?_
    refine EV.iret (pc := 6) dX4_castToLane_6 trivial ?_
    exact ⟨congrArg (fun z => some (Value.int z)) (by simp [iCast, *]), rfl⟩

set_option maxHeartbeats 4000000 in
set_option maxRecDepth 100000 in
theorem m_isLane {G : eG} {ad : Nat → Nat} {h : Nat → va_E} (v : Int32)  : MC G M_X4_isLane cX4_isLane ad 54 [.int v] h (IS (some (.int (b2i (decide (0 ≤ v.toInt ∧ v.toInt ≤ 2))))) h) := by
  refine MC.of (by decide +kernel) (Nat.le_of_ble_eq_true rfl) (by dsimp only [linit, Nat.reduceSub, List.reduceReplicate] <;> rfl) ?_
  refine EV.iload_n (pc := 0) dX4_isLane_0 rfl ?_
  refine EV.iconst (pc := 1) (v := 0) dX4_isLane_1 (by decide) ?_
  refine EV.iconst (pc := 2) (v := 2) dX4_isLane_2 (by decide) ?_
  refine EV.callSR1 (pc := 3) (M' := M_X4_within) dX4_isLane_3 lkX4_106 okS_X4_within (m_within _ _ _) (by decide) rfl rfl (Nat.le_of_ble_eq_true rfl) ?_
  exact EV.iret (pc := 6) dX4_isLane_6 (b2i_nar _) ⟨rfl, rfl⟩

set_option maxHeartbeats 4000000 in
set_option maxRecDepth 100000 in
theorem m_isCell {G : eG} {ad : Nat → Nat} {h : Nat → va_E} (x y : Int32)  : MC G M_X4_isCell cX4_isCell ad 54 [.int x, .int y] h (IS (some (.int (b2i (decide (0 ≤ x.toInt ∧ x.toInt ≤ 19 ∧ 0 ≤ y.toInt ∧ y.toInt ≤ 19))))) h) := by
  refine MC.of (by decide +kernel) (Nat.le_of_ble_eq_true rfl) (by dsimp only [linit, Nat.reduceSub, List.reduceReplicate] <;> rfl) ?_
  refine EV.iload_n (pc := 0) dX4_isCell_0 rfl ?_
  refine EV.iconst (pc := 1) (v := 0) dX4_isCell_1 (by decide) ?_
  refine EV.bipush (pc := 2) (v := 19) dX4_isCell_2 (by decide) ?_
  refine EV.callSR1 (pc := 4) (M' := M_X4_within) dX4_isCell_4 lkX4_106 okS_X4_within (m_within _ _ _) (by decide) rfl rfl (Nat.le_of_ble_eq_true rfl) ?_
  refine EV.if_eq (pc := 7) (tgt := 24) dX4_isCell_7 (by decide) (fun c7 => ?_) (fun c7 => ?_)
  · replace c7 := b2i_F c7
    refine EV.iconst (pc := 24) (v := 0) dX4_isCell_24 (by decide) ?_
    refine EV.iret (pc := 25) dX4_isCell_25 (by rfl) ?_
    exact ⟨congrArg (fun z => some (Value.int z)) (by first | exact b2i_1 (by (try simp only [Int32.lt_iff_toInt_lt, Int32.le_iff_toInt_le, ← Int32.toInt_inj, Int64.lt_iff_toInt_lt, Int64.le_iff_toInt_le, ← Int64.toInt_inj, i_l0, i_l1, i_l2, i_l5, i_l19, i_m1, j_l0, j_l1, j_l5, Int32.toInt_toInt64] at *); omega) | exact b2i_0 (by (try simp only [Int32.lt_iff_toInt_lt, Int32.le_iff_toInt_le, ← Int32.toInt_inj, Int64.lt_iff_toInt_lt, Int64.le_iff_toInt_le, ← Int64.toInt_inj, i_l0, i_l1, i_l2, i_l5, i_l19, i_m1, j_l0, j_l1, j_l5, Int32.toInt_toInt64] at *); omega)), rfl⟩
  · replace c7 := b2i_T c7
    refine EV.iload_n (pc := 10) dX4_isCell_10 rfl ?_
    refine EV.iconst (pc := 11) (v := 0) dX4_isCell_11 (by decide) ?_
    refine EV.bipush (pc := 12) (v := 19) dX4_isCell_12 (by decide) ?_
    refine EV.callSR1 (pc := 14) (M' := M_X4_within) dX4_isCell_14 lkX4_106 okS_X4_within (m_within _ _ _) (by decide) rfl rfl (Nat.le_of_ble_eq_true rfl) ?_
    refine EV.if_eq (pc := 17) (tgt := 24) dX4_isCell_17 (by decide) (fun c17 => ?_) (fun c17 => ?_)
    · replace c17 := b2i_F c17
      refine EV.iconst (pc := 24) (v := 0) dX4_isCell_24 (by decide) ?_
      refine EV.iret (pc := 25) dX4_isCell_25 (by rfl) ?_
      exact ⟨congrArg (fun z => some (Value.int z)) (by first | exact b2i_1 (by (try simp only [Int32.lt_iff_toInt_lt, Int32.le_iff_toInt_le, ← Int32.toInt_inj, Int64.lt_iff_toInt_lt, Int64.le_iff_toInt_le, ← Int64.toInt_inj, i_l0, i_l1, i_l2, i_l5, i_l19, i_m1, j_l0, j_l1, j_l5, Int32.toInt_toInt64] at *); omega) | exact b2i_0 (by (try simp only [Int32.lt_iff_toInt_lt, Int32.le_iff_toInt_le, ← Int32.toInt_inj, Int64.lt_iff_toInt_lt, Int64.le_iff_toInt_le, ← Int64.toInt_inj, i_l0, i_l1, i_l2, i_l5, i_l19, i_m1, j_l0, j_l1, j_l5, Int32.toInt_toInt64] at *); omega)), rfl⟩
    · replace c17 := b2i_T c17
      refine EV.iconst (pc := 20) (v := 1) dX4_isCell_20 (by decide) ?_
      refine EV.goto (pc := 21) (tgt := 25) dX4_isCell_21 (by decide) ?_
      refine EV.iret (pc := 25) dX4_isCell_25 (by rfl) ?_
      exact ⟨congrArg (fun z => some (Value.int z)) (by first | exact b2i_1 (by (try simp only [Int32.lt_iff_toInt_lt, Int32.le_iff_toInt_le, ← Int32.toInt_inj, Int64.lt_iff_toInt_lt, Int64.le_iff_toInt_le, ← Int64.toInt_inj, i_l0, i_l1, i_l2, i_l5, i_l19, i_m1, j_l0, j_l1, j_l5, Int32.toInt_toInt64] at *); omega) | exact b2i_0 (by (try simp only [Int32.lt_iff_toInt_lt, Int32.le_iff_toInt_le, ← Int32.toInt_inj, Int64.lt_iff_toInt_lt, Int64.le_iff_toInt_le, ← Int64.toInt_inj, i_l0, i_l1, i_l2, i_l5, i_l19, i_m1, j_l0, j_l1, j_l5, Int32.toInt_toInt64] at *); omega)), rfl⟩

set_option maxHeartbeats 4000000 in
set_option maxRecDepth 100000 in
theorem m_max {G : eG} {ad : Nat → Nat} {h : Nat → va_E} (x y : Int32)  : MC G M_J9_max_7cf53 cJ9_max_7cf53 ad 54 [.int x, .int y] h (IS (some (.int (if x.toInt < y.toInt then y else x))) h) := by
  refine MC.of (by decide +kernel) (Nat.le_of_ble_eq_true rfl) (by dsimp only [linit, Nat.reduceSub, List.reduceReplicate] <;> rfl) ?_
  refine EV.iload_n (pc := 0) dJ9_max_7cf53_0 rfl ?_
  refine EV.iload_n (pc := 1) dJ9_max_7cf53_1 rfl ?_
  refine EV.icmp_lt (pc := 2) (tgt := 9) dJ9_max_7cf53_2 (by decide) (fun c2 => ?_) (fun c2 => ?_)
  · refine EV.iload_n (pc := 9) dJ9_max_7cf53_9 rfl ?_
    refine EV.iret (pc := 10) dJ9_max_7cf53_10 trivial ?_
    exact ⟨congrArg (fun z => some (Value.int z)) (by rw [Int32.lt_iff_toInt_lt] at *; simp [*]), rfl⟩
  · refine EV.iload_n (pc := 5) dJ9_max_7cf53_5 rfl ?_
    refine EV.goto (pc := 6) (tgt := 10) dJ9_max_7cf53_6 (by decide) ?_
    refine EV.iret (pc := 10) dJ9_max_7cf53_10 trivial ?_
    exact ⟨congrArg (fun z => some (Value.int z)) (by rw [Int32.lt_iff_toInt_lt] at *; simp [*]), rfl⟩

set_option maxHeartbeats 4000000 in
set_option maxRecDepth 100000 in
theorem m_min {G : eG} {ad : Nat → Nat} {h : Nat → va_E} (x y : Int32)  : MC G M_J9_min_7cf53 cJ9_min_7cf53 ad 54 [.int x, .int y] h (IS (some (.int (if y.toInt < x.toInt then y else x))) h) := by
  refine MC.of (by decide +kernel) (Nat.le_of_ble_eq_true rfl) (by dsimp only [linit, Nat.reduceSub, List.reduceReplicate] <;> rfl) ?_
  refine EV.iload_n (pc := 0) dJ9_min_7cf53_0 rfl ?_
  refine EV.iload_n (pc := 1) dJ9_min_7cf53_1 rfl ?_
  refine EV.icmp_gt (pc := 2) (tgt := 9) dJ9_min_7cf53_2 (by decide) (fun c2 => ?_) (fun c2 => ?_)
  · refine EV.iload_n (pc := 9) dJ9_min_7cf53_9 rfl ?_
    refine EV.iret (pc := 10) dJ9_min_7cf53_10 trivial ?_
    exact ⟨congrArg (fun z => some (Value.int z)) (by rw [Int32.lt_iff_toInt_lt] at *; simp [*]), rfl⟩
  · refine EV.iload_n (pc := 5) dJ9_min_7cf53_5 rfl ?_
    refine EV.goto (pc := 6) (tgt := 10) dJ9_min_7cf53_6 (by decide) ?_
    refine EV.iret (pc := 10) dJ9_min_7cf53_10 trivial ?_
    exact ⟨congrArg (fun z => some (Value.int z)) (by rw [Int32.lt_iff_toInt_lt] at *; simp [*]), rfl⟩

set_option maxHeartbeats 4000000 in
set_option maxRecDepth 100000 in
theorem m_abs {G : eG} {ad : Nat → Nat} {h : Nat → va_E} (x : Int64)  : MC G M_J9_abs_067f4 cJ9_abs_067f4 ad 54 [.long x] h (IS (some (.long (if 0 ≤ x.toInt then x else -x))) h) := by
  refine MC.of (by decide +kernel) (Nat.le_of_ble_eq_true rfl) (by dsimp only [linit, Nat.reduceSub, List.reduceReplicate] <;> rfl) ?_
  refine EV.lload_n (pc := 0) dJ9_abs_067f4_0 rfl ?_
  refine EV.lconst (pc := 1) (v := 0) dJ9_abs_067f4_1 (by decide) ?_
  refine EV.lcmp_ge (pc := 2) (tgt := 11) dJ9_abs_067f4_2 dJ9_abs_067f4_3 (by decide) (fun c2 => ?_) (fun c2 => ?_)
  · refine EV.lload_n (pc := 11) dJ9_abs_067f4_11 rfl ?_
    refine EV.lret (pc := 12) dJ9_abs_067f4_12 trivial ?_
    exact ⟨congrArg (fun z => some (Value.long z)) (by rw [Int64.le_iff_toInt_le] at *; simp only [j_l0] at *; simp [*]), rfl⟩
  · refine EV.lload_n (pc := 6) dJ9_abs_067f4_6 rfl ?_
    refine EV.lneg (pc := 7) dJ9_abs_067f4_7 ?_
    refine EV.goto (pc := 8) (tgt := 12) dJ9_abs_067f4_8 (by decide) ?_
    refine EV.lret (pc := 12) dJ9_abs_067f4_12 trivial ?_
    exact ⟨congrArg (fun z => some (Value.long z)) (by rw [Int64.le_iff_toInt_le] at *; simp only [j_l0] at *; simp [*]), rfl⟩

set_option maxHeartbeats 4000000 in
set_option maxRecDepth 100000 in
theorem m_floorDivI {G : eG} {ad : Nat → Nat} {h : Nat → va_E} (x y : Int32) (hy : 0 < y.toInt) : MC G M_J9_floorDiv_7cf53 cJ9_floorDiv_7cf53 ad 54 [.int x, .int y] h (IS (some (.int (iI (x.toInt / y.toInt)))) h) := by
  refine MC.of (by decide +kernel) (Nat.le_of_ble_eq_true rfl) (by dsimp only [linit, Nat.reduceSub, List.reduceReplicate] <;> rfl) ?_
  refine EV.iload_n (pc := 0) dJ9_floorDiv_7cf53_0 rfl ?_
  refine EV.iload_n (pc := 1) dJ9_floorDiv_7cf53_1 rfl ?_
  refine EV.idiv (pc := 2) dJ9_floorDiv_7cf53_2 (i_ne0 hy) ?_
  refine EV.istore_n (pc := 3) 2 dJ9_floorDiv_7cf53_3 rfl (by decide) (by dsimp only [lst1, lk] <;> rfl) ?_
  refine EV.iload_n (pc := 4) dJ9_floorDiv_7cf53_4 rfl ?_
  refine EV.iload_n (pc := 5) dJ9_floorDiv_7cf53_5 rfl ?_
  refine EV.ixor (pc := 6) dJ9_floorDiv_7cf53_6 ?_
  refine EV.if_ge (pc := 7) (tgt := 21) dJ9_floorDiv_7cf53_7 (by decide) (fun c7 => ?_) (fun c7 => ?_)
  · refine EV.iload_n (pc := 21) dJ9_floorDiv_7cf53_21 rfl ?_
    refine EV.iret (pc := 22) dJ9_floorDiv_7cf53_22 trivial ?_
    exact ⟨congrArg (fun z => some (Value.int z)) (by rw [Int32.le_iff_toInt_le, i_l0, i_xor_neg _ _ hy] at c7; first | exact i_fd1 hy c7 | exact i_fd2 hy c7 c14), rfl⟩
  · refine EV.iload_n (pc := 10) dJ9_floorDiv_7cf53_10 rfl ?_
    refine EV.iload_n (pc := 11) dJ9_floorDiv_7cf53_11 rfl ?_
    refine EV.imul (pc := 12) dJ9_floorDiv_7cf53_12 ?_
    refine EV.iload_n (pc := 13) dJ9_floorDiv_7cf53_13 rfl ?_
    refine EV.icmp_eq (pc := 14) (tgt := 21) dJ9_floorDiv_7cf53_14 (by decide) (fun c14 => ?_) (fun c14 => ?_)
    · refine EV.iload_n (pc := 21) dJ9_floorDiv_7cf53_21 rfl ?_
      refine EV.iret (pc := 22) dJ9_floorDiv_7cf53_22 trivial ?_
      exact ⟨congrArg (fun z => some (Value.int z)) (by rw [Int32.le_iff_toInt_le, i_l0, i_xor_neg _ _ hy] at c7; first | exact i_fd1 hy c7 | exact i_fd2 hy c7 c14), rfl⟩
    · refine EV.iload_n (pc := 17) dJ9_floorDiv_7cf53_17 rfl ?_
      refine EV.iconst (pc := 18) (v := 1) dJ9_floorDiv_7cf53_18 (by decide) ?_
      refine EV.isub (pc := 19) dJ9_floorDiv_7cf53_19 ?_
      refine EV.iret (pc := 20) dJ9_floorDiv_7cf53_20 trivial ?_
      exact ⟨congrArg (fun z => some (Value.int z)) (by rw [Int32.le_iff_toInt_le, i_l0, i_xor_neg _ _ hy] at c7; exact i_fd3 hy c7 c14), rfl⟩

set_option maxHeartbeats 4000000 in
set_option maxRecDepth 100000 in
theorem m_floorDivJ {G : eG} {ad : Nat → Nat} {h : Nat → va_E} (x y : Int64) (hy : 0 < y.toInt) : MC G M_J9_floorDiv_f86c9 cJ9_floorDiv_f86c9 ad 54 [.long x, .long y] h (IS (some (.long (jI (x.toInt / y.toInt)))) h) := by
  refine MC.of (by decide +kernel) (Nat.le_of_ble_eq_true rfl) (by dsimp only [linit, Nat.reduceSub, List.reduceReplicate] <;> rfl) ?_
  refine EV.lload_n (pc := 0) dJ9_floorDiv_f86c9_0 rfl ?_
  refine EV.lload_n (pc := 1) dJ9_floorDiv_f86c9_1 rfl ?_
  refine EV.ldiv (pc := 2) dJ9_floorDiv_f86c9_2 (j_ne0 hy) ?_
  refine EV.lstore (pc := 3) dJ9_floorDiv_f86c9_3 (by decide) (by dsimp only [lst2, lno, lk] <;> rfl) ?_
  refine EV.lload_n (pc := 5) dJ9_floorDiv_f86c9_5 rfl ?_
  refine EV.lload_n (pc := 6) dJ9_floorDiv_f86c9_6 rfl ?_
  refine EV.lxor (pc := 7) dJ9_floorDiv_f86c9_7 ?_
  refine EV.lconst (pc := 8) (v := 0) dJ9_floorDiv_f86c9_8 (by decide) ?_
  refine EV.lcmp_ge (pc := 9) (tgt := 27) dJ9_floorDiv_f86c9_9 dJ9_floorDiv_f86c9_10 (by decide) (fun c9 => ?_) (fun c9 => ?_)
  · refine EV.lload (pc := 27) dJ9_floorDiv_f86c9_27 rfl ?_
    refine EV.lret (pc := 29) dJ9_floorDiv_f86c9_29 trivial ?_
    exact ⟨congrArg (fun z => some (Value.long z)) (by rw [Int64.le_iff_toInt_le, j_l0, j_xor_neg _ _ hy] at c9; first | exact j_fd1 hy c9 | exact j_fd2 hy c18), rfl⟩
  · refine EV.lload (pc := 13) dJ9_floorDiv_f86c9_13 rfl ?_
    refine EV.lload_n (pc := 15) dJ9_floorDiv_f86c9_15 rfl ?_
    refine EV.lmul (pc := 16) dJ9_floorDiv_f86c9_16 ?_
    refine EV.lload_n (pc := 17) dJ9_floorDiv_f86c9_17 rfl ?_
    refine EV.lcmp_eq (pc := 18) (tgt := 27) dJ9_floorDiv_f86c9_18 dJ9_floorDiv_f86c9_19 (by decide) (fun c18 => ?_) (fun c18 => ?_)
    · refine EV.lload (pc := 27) dJ9_floorDiv_f86c9_27 rfl ?_
      refine EV.lret (pc := 29) dJ9_floorDiv_f86c9_29 trivial ?_
      exact ⟨congrArg (fun z => some (Value.long z)) (by rw [Int64.le_iff_toInt_le, j_l0, j_xor_neg _ _ hy] at c9; first | exact j_fd1 hy c9 | exact j_fd2 hy c18), rfl⟩
    · refine EV.lload (pc := 22) dJ9_floorDiv_f86c9_22 rfl ?_
      refine EV.lconst (pc := 24) (v := 1) dJ9_floorDiv_f86c9_24 (by decide) ?_
      refine EV.lsub (pc := 25) dJ9_floorDiv_f86c9_25 ?_
      refine EV.lret (pc := 26) dJ9_floorDiv_f86c9_26 trivial ?_
      exact ⟨congrArg (fun z => some (Value.long z)) (by rw [Int64.le_iff_toInt_le, j_l0, j_xor_neg _ _ hy] at c9; exact j_fd3 hy c9 c18), rfl⟩

set_option maxHeartbeats 4000000 in
set_option maxRecDepth 100000 in
theorem m_mix {G : eG} {ad : Nat → Nat} {h : Nat → va_E} (x y : Int64)  : MC G M_X4_mix cX4_mix ad 54 [.long x, .long y] h (IS (some (.long (31 * x + y))) h) := by
  refine MC.of (by decide +kernel) (Nat.le_of_ble_eq_true rfl) (by dsimp only [linit, Nat.reduceSub, List.reduceReplicate] <;> rfl) ?_
  refine EV.ldc2 (pc := 0) dX4_mix_0 kcX4_322 ?_
  refine EV.lload_n (pc := 3) dX4_mix_3 rfl ?_
  refine EV.lmul (pc := 4) dX4_mix_4 ?_
  refine EV.lload_n (pc := 5) dX4_mix_5 rfl ?_
  refine EV.ladd (pc := 6) dX4_mix_6 ?_
  exact EV.lret (pc := 7) dX4_mix_7 trivial ⟨rfl, rfl⟩

set_option maxHeartbeats 4000000 in
set_option maxRecDepth 100000 in
theorem m_waveAt {G : eG} {ad : Nat → Nat} {h : Nat → va_E} (a b : Int64) (z : Int32)  : MC G M_X4_waveAt cX4_waveAt ad 54 [.long a, .long b, .int z] h (IS (some (.long (a + jI ((b * z.toInt64).toInt / 64)))) h) := by
  refine MC.of (by decide +kernel) (Nat.le_of_ble_eq_true rfl) (by dsimp only [linit, Nat.reduceSub, List.reduceReplicate] <;> rfl) ?_
  refine EV.lload_n (pc := 0) dX4_waveAt_0 rfl ?_
  refine EV.lload_n (pc := 1) dX4_waveAt_1 rfl ?_
  refine EV.iload (pc := 2) dX4_waveAt_2 rfl ?_
  refine EV.i2l (pc := 4) dX4_waveAt_4 ?_
  refine EV.lmul (pc := 5) dX4_waveAt_5 ?_
  refine EV.ldc2 (pc := 6) dX4_waveAt_6 kcX4_297 ?_
  refine EV.callSR1 (pc := 9) (M' := M_J9_floorDiv_f86c9) dX4_waveAt_9 lkX4_253 okS_J9_floorDiv_f86c9 (m_floorDivJ _ _ (by decide +kernel)) (by decide) rfl rfl (Nat.le_of_ble_eq_true rfl) ?_
  refine EV.ladd (pc := 12) dX4_waveAt_12 ?_
  exact EV.lret (pc := 13) dX4_waveAt_13 trivial ⟨rfl, rfl⟩

set_option maxHeartbeats 4000000 in
set_option maxRecDepth 100000 in
theorem n_in {G : eG} {ad : Nat → Nat} {h : Nat → va_E} (v a b : Int64)  : MC G M_X5_in cX5_in ad 54 [.long v, .long a, .long b] h (IS (some (.int (b2i (decide (a.toInt ≤ v.toInt ∧ v.toInt ≤ b.toInt))))) h) := by
  refine MC.of (by decide +kernel) (Nat.le_of_ble_eq_true rfl) (by dsimp only [linit, Nat.reduceSub, List.reduceReplicate] <;> rfl) ?_
  refine EV.lload_n (pc := 0) dX5_in_0 rfl ?_
  refine EV.lload_n (pc := 1) dX5_in_1 rfl ?_
  refine EV.lcmp_lt (pc := 2) (tgt := 17) dX5_in_2 dX5_in_3 (by decide) (fun c2 => ?_) (fun c2 => ?_)
  · refine EV.iconst (pc := 17) (v := 0) dX5_in_17 (by decide) ?_
    refine EV.iret (pc := 18) dX5_in_18 (by rfl) ?_
    exact ⟨congrArg (fun z => some (Value.int z)) (by first | exact b2i_1 (by (try simp only [Int32.lt_iff_toInt_lt, Int32.le_iff_toInt_le, ← Int32.toInt_inj, Int64.lt_iff_toInt_lt, Int64.le_iff_toInt_le, ← Int64.toInt_inj, i_l0, i_l1, i_l2, i_l5, i_l19, i_m1, j_l0, j_l1, j_l5, Int32.toInt_toInt64] at *); omega) | exact b2i_0 (by (try simp only [Int32.lt_iff_toInt_lt, Int32.le_iff_toInt_le, ← Int32.toInt_inj, Int64.lt_iff_toInt_lt, Int64.le_iff_toInt_le, ← Int64.toInt_inj, i_l0, i_l1, i_l2, i_l5, i_l19, i_m1, j_l0, j_l1, j_l5, Int32.toInt_toInt64] at *); omega)), rfl⟩
  · refine EV.lload_n (pc := 6) dX5_in_6 rfl ?_
    refine EV.lload (pc := 7) dX5_in_7 rfl ?_
    refine EV.lcmp_gt (pc := 9) (tgt := 17) dX5_in_9 dX5_in_10 (by decide) (fun c9 => ?_) (fun c9 => ?_)
    · refine EV.iconst (pc := 17) (v := 0) dX5_in_17 (by decide) ?_
      refine EV.iret (pc := 18) dX5_in_18 (by rfl) ?_
      exact ⟨congrArg (fun z => some (Value.int z)) (by first | exact b2i_1 (by (try simp only [Int32.lt_iff_toInt_lt, Int32.le_iff_toInt_le, ← Int32.toInt_inj, Int64.lt_iff_toInt_lt, Int64.le_iff_toInt_le, ← Int64.toInt_inj, i_l0, i_l1, i_l2, i_l5, i_l19, i_m1, j_l0, j_l1, j_l5, Int32.toInt_toInt64] at *); omega) | exact b2i_0 (by (try simp only [Int32.lt_iff_toInt_lt, Int32.le_iff_toInt_le, ← Int32.toInt_inj, Int64.lt_iff_toInt_lt, Int64.le_iff_toInt_le, ← Int64.toInt_inj, i_l0, i_l1, i_l2, i_l5, i_l19, i_m1, j_l0, j_l1, j_l5, Int32.toInt_toInt64] at *); omega)), rfl⟩
    · refine EV.iconst (pc := 13) (v := 1) dX5_in_13 (by decide) ?_
      refine EV.goto (pc := 14) (tgt := 18) dX5_in_14 (by decide) ?_
      refine EV.iret (pc := 18) dX5_in_18 (by rfl) ?_
      exact ⟨congrArg (fun z => some (Value.int z)) (by first | exact b2i_1 (by (try simp only [Int32.lt_iff_toInt_lt, Int32.le_iff_toInt_le, ← Int32.toInt_inj, Int64.lt_iff_toInt_lt, Int64.le_iff_toInt_le, ← Int64.toInt_inj, i_l0, i_l1, i_l2, i_l5, i_l19, i_m1, j_l0, j_l1, j_l5, Int32.toInt_toInt64] at *); omega) | exact b2i_0 (by (try simp only [Int32.lt_iff_toInt_lt, Int32.le_iff_toInt_le, ← Int32.toInt_inj, Int64.lt_iff_toInt_lt, Int64.le_iff_toInt_le, ← Int64.toInt_inj, i_l0, i_l1, i_l2, i_l5, i_l19, i_m1, j_l0, j_l1, j_l5, Int32.toInt_toInt64] at *); omega)), rfl⟩

set_option maxHeartbeats 4000000 in
set_option maxRecDepth 100000 in
theorem n_floor {G : eG} {ad : Nat → Nat} {h : Nat → va_E} (x y : Int64) (hy : 0 < y.toInt) : MC G M_X5_floor cX5_floor ad 54 [.long x, .long y] h (IS (some (.long (jI (x.toInt / y.toInt)))) h) := by
  refine MC.of (by decide +kernel) (Nat.le_of_ble_eq_true rfl) (by dsimp only [linit, Nat.reduceSub, List.reduceReplicate] <;> rfl) ?_
  refine EV.lload_n (pc := 0) dX5_floor_0 rfl ?_
  refine EV.lload_n (pc := 1) dX5_floor_1 rfl ?_
  refine EV.ldiv (pc := 2) dX5_floor_2 (j_ne0 hy) ?_
  refine EV.lstore (pc := 3) dX5_floor_3 (by decide) (by dsimp only [lst2, lno, lk] <;> rfl) ?_
  refine EV.lload_n (pc := 5) dX5_floor_5 rfl ?_
  refine EV.lload_n (pc := 6) dX5_floor_6 rfl ?_
  refine EV.lrem (pc := 7) dX5_floor_7 (j_ne0 hy) ?_
  refine EV.lconst (pc := 8) (v := 0) dX5_floor_8 (by decide) ?_
  refine EV.lcmp_eq (pc := 9) (tgt := 26) dX5_floor_9 dX5_floor_10 (by decide) (fun c9 => ?_) (fun c9 => ?_)
  · refine EV.lload (pc := 26) dX5_floor_26 rfl ?_
    refine EV.lret (pc := 28) dX5_floor_28 trivial ?_
    exact ⟨congrArg (fun z => some (Value.long z)) (by first | exact j_fd2 hy (j_rem0.mp c9) | (rw [Int64.le_iff_toInt_le, j_l0] at c15; first | exact j_fd1 hy c15 | exact j_fd3 hy c15 (fun q => c9 (j_rem0.mpr q)))), rfl⟩
  · refine EV.lload_n (pc := 13) dX5_floor_13 rfl ?_
    refine EV.lconst (pc := 14) (v := 0) dX5_floor_14 (by decide) ?_
    refine EV.lcmp_ge (pc := 15) (tgt := 26) dX5_floor_15 dX5_floor_16 (by decide) (fun c15 => ?_) (fun c15 => ?_)
    · refine EV.lload (pc := 26) dX5_floor_26 rfl ?_
      refine EV.lret (pc := 28) dX5_floor_28 trivial ?_
      exact ⟨congrArg (fun z => some (Value.long z)) (by first | exact j_fd2 hy (j_rem0.mp c9) | (rw [Int64.le_iff_toInt_le, j_l0] at c15; first | exact j_fd1 hy c15 | exact j_fd3 hy c15 (fun q => c9 (j_rem0.mpr q)))), rfl⟩
    · refine EV.lload (pc := 19) dX5_floor_19 rfl ?_
      refine EV.lconst (pc := 21) (v := 1) dX5_floor_21 (by decide) ?_
      refine EV.lsub (pc := 22) dX5_floor_22 ?_
      refine EV.goto (pc := 23) (tgt := 28) dX5_floor_23 (by decide) ?_
      refine EV.lret (pc := 28) dX5_floor_28 trivial ?_
      exact ⟨congrArg (fun z => some (Value.long z)) (by first | exact j_fd2 hy (j_rem0.mp c9) | (rw [Int64.le_iff_toInt_le, j_l0] at c15; first | exact j_fd1 hy c15 | exact j_fd3 hy c15 (fun q => c9 (j_rem0.mpr q)))), rfl⟩

set_option maxHeartbeats 4000000 in
set_option maxRecDepth 100000 in
theorem n_isPlate {G : eG} {ad : Nat → Nat} {h : Nat → va_E} (v : Int32)  : MC G M_X5_isPlate cX5_isPlate ad 54 [.int v] h (IS (some (.int (b2i (decide (0 ≤ v.toInt ∧ v.toInt ≤ 5))))) h) := by
  refine MC.of (by decide +kernel) (Nat.le_of_ble_eq_true rfl) (by dsimp only [linit, Nat.reduceSub, List.reduceReplicate] <;> rfl) ?_
  refine EV.iload_n (pc := 0) dX5_isPlate_0 rfl ?_
  refine EV.i2l (pc := 1) dX5_isPlate_1 ?_
  refine EV.lconst (pc := 2) (v := 0) dX5_isPlate_2 (by decide) ?_
  refine EV.ldc2 (pc := 3) dX5_isPlate_3 kcX5_73 ?_
  refine EV.callSR1 (pc := 6) (M' := M_X5_in) dX5_isPlate_6 lkX5_75 okS_X5_in (n_in _ _ _) (by decide) rfl rfl (Nat.le_of_ble_eq_true rfl) ?_
  refine EV.iret (pc := 9) dX5_isPlate_9 (b2i_nar _) ?_
  exact ⟨congrArg (fun z => some (Value.int z)) (by rw [Int32.toInt_toInt64]; rfl), rfl⟩

set_option maxHeartbeats 4000000 in
set_option maxRecDepth 100000 in
theorem n_cast {G : eG} {ad : Nat → Nat} {h : Nat → va_E} (a v : Int32)  : MC G M_X5_cast cX5_cast ad 54 [.int a, .int v] h (IS (some (.int (iCast v a))) h) := by
  refine MC.of (by decide +kernel) (Nat.le_of_ble_eq_true rfl) (by dsimp only [linit, Nat.reduceSub, List.reduceReplicate] <;> rfl) ?_
  refine EV.iload_n (pc := 0) dX5_cast_0 rfl ?_
  refine EV.if_ne (pc := 1) (tgt := 9) dX5_cast_1 (by decide) (fun c1 => ?_) (fun c1 => ?_)
  · refine EV.iload_n (pc := 9) dX5_cast_9 rfl ?_
    refine EV.iconst (pc := 10) (v := 1) dX5_cast_10 (by decide) ?_
    refine EV.icmp_ne (pc := 11) (tgt := 19) dX5_cast_11 (by decide) (fun c11 => ?_) (fun c11 => ?_)
    · refine EV.iload_n (pc := 19) dX5_cast_19 rfl ?_
      refine EV.iret (pc := 20) dX5_cast_20 trivial ?_
      exact ⟨congrArg (fun z => some (Value.int z)) (by simp [iCast, *]), rfl⟩
    · refine EV.iload_n (pc := 14) dX5_cast_14 rfl ?_
      refine EV.i2s (pc := 15) dX5_cast_15 ?_
      refine EV.goto (pc := 16) (tgt := 20) dX5_cast_16 (by decide) ?_
      refine EV.iret (pc := 20) dX5_cast_20 trivial ?_
      exact ⟨congrArg (fun z => some (Value.int z)) (by simp [iCast, *]), rfl⟩
  · refine EV.iload_n (pc := 4) dX5_cast_4 rfl ?_
    refine EV.i2b (pc := 5) dX5_cast_5 ?_
    refine EV.goto (pc := 6) (tgt := 20) dX5_cast_6 (by decide) ?_
    refine EV.iret (pc := 20) dX5_cast_20 trivial ?_
    exact ⟨congrArg (fun z => some (Value.int z)) (by simp [iCast, *]), rfl⟩

set_option maxHeartbeats 4000000 in
set_option maxRecDepth 100000 in
theorem n_place {G : eG} {ad : Nat → Nat} {h : Nat → va_E} (p x y : Int32)  : MC G M_X5_place cX5_place ad 54 [.int p, .int x, .int y] h (IS (some (.int (400 * p + 20 * y + x))) h) := by
  refine MC.of (by decide +kernel) (Nat.le_of_ble_eq_true rfl) (by dsimp only [linit, Nat.reduceSub, List.reduceReplicate] <;> rfl) ?_
  refine EV.sipush (pc := 0) (v := 400) dX5_place_0 (by decide) ?_
  refine EV.iload_n (pc := 3) dX5_place_3 rfl ?_
  refine EV.imul (pc := 4) dX5_place_4 ?_
  refine EV.bipush (pc := 5) (v := 20) dX5_place_5 (by decide) ?_
  refine EV.iload_n (pc := 7) dX5_place_7 rfl ?_
  refine EV.imul (pc := 8) dX5_place_8 ?_
  refine EV.iadd (pc := 9) dX5_place_9 ?_
  refine EV.iload_n (pc := 10) dX5_place_10 rfl ?_
  refine EV.iadd (pc := 11) dX5_place_11 ?_
  exact EV.iret (pc := 12) dX5_place_12 trivial ⟨rfl, rfl⟩

set_option maxHeartbeats 4000000 in
set_option maxRecDepth 100000 in
theorem n_waveOf {G : eG} {ad : Nat → Nat} {h : Nat → va_E} (a b : Int64) (z : Int32)  : MC G M_X5_waveOf cX5_waveOf ad 54 [.long a, .long b, .int z] h (IS (some (.long (a + jI ((b * z.toInt64).toInt / 64)))) h) := by
  refine MC.of (by decide +kernel) (Nat.le_of_ble_eq_true rfl) (by dsimp only [linit, Nat.reduceSub, List.reduceReplicate] <;> rfl) ?_
  refine EV.lload_n (pc := 0) dX5_waveOf_0 rfl ?_
  refine EV.lload_n (pc := 1) dX5_waveOf_1 rfl ?_
  refine EV.iload (pc := 2) dX5_waveOf_2 rfl ?_
  refine EV.i2l (pc := 4) dX5_waveOf_4 ?_
  refine EV.lmul (pc := 5) dX5_waveOf_5 ?_
  refine EV.ldc2 (pc := 6) dX5_waveOf_6 kcX5_165 ?_
  refine EV.callSR1 (pc := 9) (M' := M_X5_floor) dX5_waveOf_9 lkX5_120 okS_X5_floor (n_floor _ _ (by decide +kernel)) (by decide) rfl rfl (Nat.le_of_ble_eq_true rfl) ?_
  refine EV.ladd (pc := 12) dX5_waveOf_12 ?_
  exact EV.lret (pc := 13) dX5_waveOf_13 trivial ⟨rfl, rfl⟩

def lBnd (v : Int32) : Int := if v.toInt < 0 then 0 else if 100000 < v.toInt then 100000 else v.toInt

set_option maxHeartbeats 4000000 in
set_option maxRecDepth 100000 in
theorem n_bounded {G : eG} {ad : Nat → Nat} {h : Nat → va_E} (r : Nat) (v : Int32)  : MC G M_X5_bounded cX5_bounded ad 54 [.ref r, .int v] h (IS (some (.long (jI (lBnd v)))) h) := by
  refine MC.of (by decide +kernel) (Nat.le_of_ble_eq_true rfl) (by dsimp only [linit, Nat.reduceSub, List.reduceReplicate] <;> rfl) ?_
  refine EV.iload_n (pc := 0) dX5_bounded_0 rfl ?_
  refine EV.if_ge (pc := 1) (tgt := 8) dX5_bounded_1 (by decide) (fun c1 => ?_) (fun c1 => ?_)
  · refine EV.iload_n (pc := 8) dX5_bounded_8 rfl ?_
    refine EV.ldc (pc := 9) dX5_bounded_9 kcX5_142 ?_
    refine EV.icmp_le (pc := 11) (tgt := 20) dX5_bounded_11 (by decide) (fun c11 => ?_) (fun c11 => ?_)
    · refine EV.iload_n (pc := 20) dX5_bounded_20 rfl ?_
      refine EV.i2l (pc := 21) dX5_bounded_21 ?_
      refine EV.lret (pc := 22) dX5_bounded_22 trivial ?_
      exact ⟨congrArg (fun z => some (Value.long z)) (by simp only [Int32.lt_iff_toInt_lt, Int32.le_iff_toInt_le, i_l0, show (100000 : Int32).toInt = 100000 by decide +kernel] at *; unfold lBnd; first | (rw [if_pos (by omega)]; rfl) | (rw [if_neg (by omega), if_pos (by omega)]; rfl) | (rw [if_neg (by omega), if_neg (by omega)]; exact i_l v)), rfl⟩
    · refine EV.ldc2 (pc := 14) dX5_bounded_14 kcX5_143 ?_
      refine EV.goto (pc := 17) (tgt := 22) dX5_bounded_17 (by decide) ?_
      refine EV.lret (pc := 22) dX5_bounded_22 trivial ?_
      exact ⟨congrArg (fun z => some (Value.long z)) (by simp only [Int32.lt_iff_toInt_lt, Int32.le_iff_toInt_le, i_l0, show (100000 : Int32).toInt = 100000 by decide +kernel] at *; unfold lBnd; first | (rw [if_pos (by omega)]; rfl) | (rw [if_neg (by omega), if_pos (by omega)]; rfl) | (rw [if_neg (by omega), if_neg (by omega)]; exact i_l v)), rfl⟩
  · refine EV.lconst (pc := 4) (v := 0) dX5_bounded_4 (by decide) ?_
    refine EV.goto (pc := 5) (tgt := 22) dX5_bounded_5 (by decide) ?_
    refine EV.lret (pc := 22) dX5_bounded_22 trivial ?_
    exact ⟨congrArg (fun z => some (Value.long z)) (by simp only [Int32.lt_iff_toInt_lt, Int32.le_iff_toInt_le, i_l0, show (100000 : Int32).toInt = 100000 by decide +kernel] at *; unfold lBnd; first | (rw [if_pos (by omega)]; rfl) | (rw [if_neg (by omega), if_pos (by omega)]; rfl) | (rw [if_neg (by omega), if_neg (by omega)]; exact i_l v)), rfl⟩
