/-- the column of a row at a wave, by its law (a, b): -1 if there is none -/
def colI (a b : Int) (co : Nat) (w : Int) : Int := if w - a < 0 then -1 else if (co : Int) - 1 < (w - a) / b then -1 else if (w - a) / b < (co : Int) - 1 ∨ (w - a) % b = 0 then (w - a) / b else -1
def colS (s : St) (c : Nat) (w : Int) : Int := if s_li s c = true then colI (s_lA s c).toInt (s_lB s c).toInt (s_co s c) w else -1
theorem ediv_is {y b x : Int} (hb : 0 < b) (h1 : b * x ≤ y) (h2 : y < b * (x + 1)) : y / b = x := by
  apply Int.le_antisymm
  · have := Int.ediv_lt_of_lt_mul hb (show y < (x + 1) * b by rw [Int.mul_comm]; exact h2)
    omega
  · exact Int.le_ediv_of_mul_le hb (by rw [Int.mul_comm]; exact h1)
theorem colI_in {a b : Int} {co : Nat} {w : Int} (hb : 0 < b) : colI a b co w = -1 ∨ (0 ≤ colI a b co w ∧ colI a b co w < co) := by
  unfold colI
  split
  · exact Or.inl rfl
  · split
    · exact Or.inl rfl
    · split
      · right
        have := Int.ediv_nonneg (show 0 ≤ w - a by omega) (show 0 ≤ b by omega)
        omega
      · exact Or.inl rfl
theorem colI_end {a b : Int} {co : Nat} {w : Int} (hb : 0 < b) (h : (0 : Nat) = co ∨ w < a + b * ((0 : Nat) : Int)) : colI a b co w = -1 := by
  unfold colI
  split
  · rfl
  · rename_i h0
    have h1 := Int.ediv_nonneg (show 0 ≤ w - a by omega) (show 0 ≤ b by omega)
    rcases h with h | h
    · rw [if_pos (by omega)]
    · exfalso
      simp at h
      omega
theorem colI_mid {a b : Int} {co n : Nat} {w : Int} (hb : 0 < b) (hn : n + 1 < co) (h1 : a + b * (n : Int) ≤ w) (h2 : w < a + b * ((n + 1 : Nat) : Int)) : colI a b co w = n := by
  have h3 : 0 ≤ b * (n : Int) := Int.mul_nonneg (by omega) (by omega)
  have h4 : (w - a) / b = n := ediv_is hb (by omega) (by have : ((n + 1 : Nat) : Int) = (n : Int) + 1 := rfl; rw [this] at h2; omega)
  unfold colI
  rw [h4, if_neg (by omega), if_neg (by omega), if_pos (by omega)]
theorem colI_just {a b : Int} {co n : Nat} {w : Int} (hb : 0 < b) (hn : n < co) (h1 : a + b * (n : Int) = w) : colI a b co w = n := by
  have h3 : 0 ≤ b * (n : Int) := Int.mul_nonneg (by omega) (by omega)
  have h5 : w - a = b * n := by omega
  have h4 : (w - a) / b = n := by rw [h5]; exact Int.mul_ediv_cancel_left _ (by omega)
  have h6 : (w - a) % b = 0 := by rw [h5]; exact Int.mul_emod_right _ _
  unfold colI
  rw [h4, h6, if_neg (by omega), if_neg (by omega), if_pos (by omega)]
theorem colI_last {a b : Int} {co n : Nat} {w : Int} (hb : 0 < b) (hn : n + 1 = co) (h1 : a + b * (n : Int) < w) : colI a b co w = -1 := by
  have h3 : 0 ≤ b * (n : Int) := Int.mul_nonneg (by omega) (by omega)
  have h4 : (n : Int) ≤ (w - a) / b := Int.le_ediv_of_mul_le hb (by rw [Int.mul_comm]; omega)
  unfold colI
  rw [if_neg (by omega)]
  split
  · rfl
  · rw [if_neg]
    intro q
    have h5 : (w - a) / b = n := by omega
    have h6 := Int.mul_ediv_add_emod (w - a) b
    rw [h5] at h6
    omega
theorem wv_64 (a b : Int) (n : Int) : wv a b (64 * n) = a + b * n := by
  unfold wv
  rw [Int.mul_left_comm, Int.mul_ediv_cancel_left _ (by omega)]
theorem own_eq {a b : Int32} {n : Nat} (ha : -1000000 ≤ a.toInt ∧ a.toInt ≤ 1000000) (hb : 0 ≤ b.toInt ∧ b.toInt ≤ 100000) (hn : n < 20) : a.toInt64 + jI ((b.toInt64 * (64 * nI n).toInt64).toInt / 64) = jI (a.toInt + b.toInt * n) := by
  have e1 : (64 * nI n).toInt = 64 * (n : Int) := by
    rw [show (64 : Int32) = iI 64 from iI_lit 64, nI_iI, iI_mul, iI_toInt (by omega) (by omega)]
  rw [wv_eq ha hb (by omega), e1, wv_64]
theorem own_in {a b : Int} {n : Nat} (ha : -1000000 ≤ a ∧ a ≤ 1000000) (hb : 0 ≤ b ∧ b ≤ 100000) (hn : n ≤ 20) : -1000000 ≤ a + b * (n : Int) ∧ a + b * (n : Int) ≤ 3000000 := by
  have h1 : 0 ≤ b * (n : Int) := Int.mul_nonneg hb.1 (by omega)
  have h2 : b * (n : Int) ≤ 100000 * 20 := Int.mul_le_mul hb.2 (by omega) (by omega) (by omega)
  omega

set_option maxHeartbeats 4000000 in
set_option maxRecDepth 100000 in
theorem l_col {G : eG} {ad : Nat → Nat} {h : Nat → va_E} {s : St} {z : Zc} {hm : Nat → va_E} (hw : CW G ad s z hm h) (k : Nat) (w : Int) (hk4 : k < 4) (hco : s_co s k ≤ 20) (hw1 : -10000000 ≤ w ∧ w ≤ 10000000) (hl : s_li s k = true → -1000000 ≤ (s_lA s k).toInt ∧ (s_lA s k).toInt ≤ 1000000 ∧ 1 ≤ (s_lB s k).toInt ∧ (s_lB s k).toInt ≤ 100000) (hli : s_li s k = true) : ∀ (n : Nat) (v4 : Option Value), (n = s_co s k ∨ w < (s_lA s k).toInt + (s_lB s k).toInt * (n : Int)) → n ≤ s_co s k → EV G M_X4_columnAt cX4_columnAt none ad 54 (IS (some (.int (iI (colS s k w)))) h) 19 [some (.ref (ad (22 + 3 * k))), some (.long (jI w)), none, some (.int (iI ((n : Int) - 1))), v4, none] [] h := by
  have ql := hl hli
  have e0 : colS s k w = colI (s_lA s k).toInt (s_lB s k).toInt (s_co s k) w := by unfold colS; rw [if_pos hli]
  rw [e0]
  intro n
  induction n with
  | zero =>
    intro v4 hn hle
    refine EV.iload_n (pc := 19) dX4_columnAt_19 rfl ?_
    refine EV.if_lt (pc := 20) (tgt := 84) dX4_columnAt_20 (by decide) (fun _ => ?_) (fun q => absurd (by decide +kernel) q)
    refine EV.iconst (pc := 84) (v := -1) dX4_columnAt_84 (by decide) ?_
    refine EV.iret (pc := 85) dX4_columnAt_85 trivial ?_
    exact ⟨by rw [colI_end (by omega) hn]; rfl, rfl⟩
  | succ n ih =>
    intro v4 hn hle
    have qo := own_in (a := (s_lA s k).toInt) (b := (s_lB s k).toInt) (n := n) (by omega) (by omega) (by omega)
    have en : iI (((n + 1 : Nat) : Int) - 1) = nI n := by rw [nI_iI]; exact iI_b (by omega)
    rw [en]
    refine EV.iload_n (pc := 19) dX4_columnAt_19 rfl ?_
    refine EV.if_lt (pc := 20) (tgt := 84) dX4_columnAt_20 (by decide) (fun q => absurd q (by rw [Int32.lt_iff_toInt_lt, i_l0, nI_t (by omega)]; omega)) (fun _ => ?_)
    refine EV.aload_n (pc := 23) dX4_columnAt_23 rfl ?_
    refine EV.getf (pc := 24) dX4_columnAt_24 fgX4_151 (show 22 + 3 * k < 54 by omega) (hw.kb' hk4) rfl ?_
    refine EV.getf (pc := 27) dX4_columnAt_27 fgX4_185 (show 24 + 3 * k < 54 by omega) (hw.lw' hk4) rfl ?_
    refine EV.i2l (pc := 30) dX4_columnAt_30 ?_
    refine EV.aload_n (pc := 31) dX4_columnAt_31 rfl ?_
    refine EV.getf (pc := 32) dX4_columnAt_32 fgX4_151 (show 22 + 3 * k < 54 by omega) (hw.kb' hk4) rfl ?_
    refine EV.getf (pc := 35) dX4_columnAt_35 fgX4_186 (show 24 + 3 * k < 54 by omega) (hw.lw' hk4) rfl ?_
    refine EV.i2l (pc := 38) dX4_columnAt_38 ?_
    refine EV.bipush (pc := 39) (v := 64) dX4_columnAt_39 (by decide) ?_
    refine EV.iload_n (pc := 41) dX4_columnAt_41 rfl ?_
    refine EV.imul (pc := 42) dX4_columnAt_42 ?_
    refine EV.callSR1 (pc := 43) (M' := M_X4_waveAt) dX4_columnAt_43 lkX4_198 okS_X4_waveAt (m_waveAt _ _ _) (by decide) rfl rfl (Nat.le_of_ble_eq_true rfl) ?_
    refine EV.topl (y := jI ((s_lA s k).toInt + (s_lB s k).toInt * (n : Int))) (own_eq (by omega) (by omega) (by omega)) ?_
    refine EV.lstore (pc := 46) dX4_columnAt_46 (by decide) (by dsimp only [lst2, lno, lk] <;> rfl) ?_
    refine EV.lload (pc := 48) dX4_columnAt_48 rfl ?_
    refine EV.lload_n (pc := 50) dX4_columnAt_50 rfl ?_
    refine EV.lcmp_gt (pc := 51) (tgt := 78) dX4_columnAt_51 dX4_columnAt_52 (by decide) (fun c51 => ?_) (fun c51 => ?_)
    · rw [jI_lt (by omega) (by omega) (by omega) (by omega)] at c51
      refine EV.iinc (pc := 78) dX4_columnAt_78 (by decide) rfl (show nI n + Int32.ofInt (-1) = iI ((n : Int) - 1) from by rw [nI_iI, show Int32.ofInt (-1) = iI (-1) from rfl, iI_add]; rfl) (by dsimp only [lst1, lk] <;> rfl) ?_
      refine EV.goto (pc := 81) (tgt := 19) dX4_columnAt_81 (by decide) ?_
      exact ih _ (Or.inr (by omega)) (by omega)
    · rw [jI_lt (by omega) (by omega) (by omega) (by omega)] at c51
      refine EV.aload_n (pc := 55) dX4_columnAt_55 rfl ?_
      refine EV.iload_n (pc := 56) dX4_columnAt_56 rfl ?_
      refine EV.iconst (pc := 57) (v := 1) dX4_columnAt_57 (by decide) ?_
      refine EV.iadd (pc := 58) dX4_columnAt_58 ?_
      refine EV.topi (y := nI (n + 1)) (nI_p1 n) ?_
      refine EV.callVR1 (pc := 59) (M' := M_X0_has) dX4_columnAt_59 lkX4_159 okV_X0_has (m_has (22 + 3 * k) (23 + 3 * k) (24 + 3 * k) (s_ca s k) (s_cb s k) (s_cr s k) (s_co s k) (s_nm s k) _ (by omega) (by omega) hco (hw.kb' hk4) (hw.nm k hk4)) (by decide) rfl rfl (Nat.le_of_ble_eq_true rfl) (show 22 + 3 * k < 54 by omega) (hw.kb' hk4) ?_
      refine EV.if_ne (pc := 62) (tgt := 72) dX4_columnAt_62 (by decide) (fun c62 => ?_) (fun c62 => ?_)
      · replace c62 := b2i_T c62
        refine EV.iload_n (pc := 72) dX4_columnAt_72 rfl ?_
        refine EV.goto (pc := 73) (tgt := 77) dX4_columnAt_73 (by decide) ?_
        refine EV.iret (pc := 77) dX4_columnAt_77 trivial ?_
        refine ⟨congrArg (fun z => some (Value.int z)) ?_, rfl⟩
        first
        | (rw [jI_eq (by omega) (by omega) (by omega) (by omega)] at c68; first | (rw [colI_just (n := n) (by omega) (by omega) (by omega), nI_iI]) | (rw [colI_last (n := n) (by omega) (by omega) (by omega)]; rfl))
        | (rw [nI_t (by omega)] at c62; rw [colI_mid (n := n) (by omega) (by omega) (by omega) (by omega), nI_iI])
      · replace c62 := b2i_F c62
        rw [nI_t (by omega)] at c62
        refine EV.lload (pc := 65) dX4_columnAt_65 rfl ?_
        refine EV.lload_n (pc := 67) dX4_columnAt_67 rfl ?_
        refine EV.lcmp_ne (pc := 68) (tgt := 76) dX4_columnAt_68 dX4_columnAt_69 (by decide) (fun c68 => ?_) (fun c68 => ?_)
        · refine EV.iconst (pc := 76) (v := -1) dX4_columnAt_76 (by decide) ?_
          refine EV.iret (pc := 77) dX4_columnAt_77 trivial ?_
          refine ⟨congrArg (fun z => some (Value.int z)) ?_, rfl⟩
          first
          | (rw [jI_eq (by omega) (by omega) (by omega) (by omega)] at c68; first | (rw [colI_just (n := n) (by omega) (by omega) (by omega), nI_iI]) | (rw [colI_last (n := n) (by omega) (by omega) (by omega)]; rfl))
          | (rw [nI_t (by omega)] at c62; rw [colI_mid (n := n) (by omega) (by omega) (by omega) (by omega), nI_iI])
        · refine EV.iload_n (pc := 72) dX4_columnAt_72 rfl ?_
          refine EV.goto (pc := 73) (tgt := 77) dX4_columnAt_73 (by decide) ?_
          refine EV.iret (pc := 77) dX4_columnAt_77 trivial ?_
          refine ⟨congrArg (fun z => some (Value.int z)) ?_, rfl⟩
          first
          | (rw [jI_eq (by omega) (by omega) (by omega) (by omega)] at c68; first | (rw [colI_just (n := n) (by omega) (by omega) (by omega), nI_iI]) | (rw [colI_last (n := n) (by omega) (by omega) (by omega)]; rfl))
          | (rw [nI_t (by omega)] at c62; rw [colI_mid (n := n) (by omega) (by omega) (by omega) (by omega), nI_iI])

set_option maxHeartbeats 4000000 in
set_option maxRecDepth 100000 in
theorem m_col {G : eG} {ad : Nat → Nat} {h : Nat → va_E}  {s : St} {z : Zc} {hm : Nat → va_E} (hw : CW G ad s z hm h) (k : Nat) (w : Int) (hk4 : k < 4) (hco : s_co s k ≤ 20) (hw1 : -10000000 ≤ w ∧ w ≤ 10000000) (hl : s_li s k = true → -1000000 ≤ (s_lA s k).toInt ∧ (s_lA s k).toInt ≤ 1000000 ∧ 1 ≤ (s_lB s k).toInt ∧ (s_lB s k).toInt ≤ 100000) : MC G M_X4_columnAt cX4_columnAt ad 54 [.ref (ad (22 + 3 * k)), .long (jI w)] h (IS (some (.int (iI (colS s k w)))) h) := by
  refine MC.of (by decide +kernel) (Nat.le_of_ble_eq_true rfl) (by dsimp only [linit, Nat.reduceSub, List.reduceReplicate] <;> rfl) ?_
  refine EV.aload_n (pc := 0) dX4_columnAt_0 rfl ?_
  refine EV.getf (pc := 1) dX4_columnAt_1 fgX4_151 (show 22 + 3 * k < 54 by omega) (hw.kb' hk4) rfl ?_
  refine EV.getf (pc := 4) dX4_columnAt_4 fgX4_182 (show 24 + 3 * k < 54 by omega) (hw.lw' hk4) rfl ?_
  refine EV.if_ne (pc := 7) (tgt := 12) dX4_columnAt_7 (by decide) (fun c7 => ?_) (fun c7 => ?_)
  · replace c7 := b2i_ne c7
    refine EV.aload_n (pc := 12) dX4_columnAt_12 rfl ?_
    refine EV.getf (pc := 13) dX4_columnAt_13 fgX4_141 (show 22 + 3 * k < 54 by omega) (hw.kb' hk4) rfl ?_
    refine EV.iconst (pc := 16) (v := 1) dX4_columnAt_16 (by decide) ?_
    refine EV.isub (pc := 17) dX4_columnAt_17 ?_
    refine EV.topi (y := iI ((s_co s k : Int) - 1)) (by rw [nI_iI, show (1 : Int32) = iI 1 from iI_lit 1, iI_sub]) ?_
    refine EV.istore_n (pc := 18) 3 dX4_columnAt_18 rfl (by decide) (by dsimp only [lst1, lk] <;> rfl) ?_
    exact l_col hw k w hk4 hco hw1 hl c7 (s_co s k) none (Or.inl rfl) (by omega)
  · replace c7 := b2i_eq c7
    refine EV.iconst (pc := 10) (v := -1) dX4_columnAt_10 (by decide) ?_
    refine EV.iret (pc := 11) dX4_columnAt_11 trivial ?_
    exact ⟨by unfold colS; rw [if_neg (by simp [c7])]; rfl, rfl⟩
