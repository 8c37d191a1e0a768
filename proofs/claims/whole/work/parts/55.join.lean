/-- at a wave: the sum of numbers times weights, and the sum of weights, of the first n rows -/
def jW (s : St) (w : Int) : Nat → Int × Int
  | 0 => (0, 0)
  | n + 1 => if colS s n w = -1 then jW s w n else ((jW s w n).1 + (s_nm s n (colS s n w).toNat : Int) * ((s_nm s n (colS s n w).toNat : Int) + 1), (jW s w n).2 + ((s_nm s n (colS s n w).toNat : Int) + 1))
def jV (s : St) (w : Int) : Int := if 0 < (jW s w (s_cn s)).2 then (jW s w (s_cn s)).1 / (jW s w (s_cn s)).2 else 0
def colOk (s : St) : Prop := ∀ c, c < 4 → s_li s c = true → -1000000 ≤ (s_lA s c).toInt ∧ (s_lA s c).toInt ≤ 1000000 ∧ 1 ≤ (s_lB s c).toInt ∧ (s_lB s c).toInt ≤ 100000
theorem colS_in {s : St} {c : Nat} {w : Int} (hl : colOk s) (hc : c < 4) (hco : s_co s c ≤ 20) : colS s c w = -1 ∨ (0 ≤ colS s c w ∧ colS s c w < s_co s c) := by
  unfold colS
  split
  · rename_i h
    exact colI_in (by have := hl c hc h; omega)
  · exact Or.inl rfl
theorem nm_mul {v : Nat} (h : v ≤ 700000) : 0 ≤ (v : Int) * ((v : Int) + 1) ∧ (v : Int) * ((v : Int) + 1) ≤ 490000700000 := by
  have h1 : 0 ≤ (v : Int) * ((v : Int) + 1) := Int.mul_nonneg (by omega) (by omega)
  have h2 : (v : Int) * ((v : Int) + 1) ≤ 700000 * 700001 := Int.mul_le_mul (by omega) (by omega) (by omega) (by omega)
  omega
theorem jW_in {s : St} {w : Int} (hl : colOk s) (hcn : s_cn s ≤ 4) (hco : ∀ c, c < 4 → s_co s c ≤ 20) (hnm : ∀ c, c < 4 → ∀ x, x < 20 → s_nm s c x ≤ 700000) : ∀ n, n ≤ 4 → 0 ≤ (jW s w n).1 ∧ (jW s w n).1 ≤ n * 490000700000 ∧ 0 ≤ (jW s w n).2 ∧ (jW s w n).2 ≤ n * 700001
  | 0, _ => by simp [jW]
  | n + 1, h => by
    have ih := jW_in hl hcn hco hnm (w := w) n (by omega)
    simp only [jW]
    split
    · omega
    · have q1 := colS_in (w := w) hl (show n < 4 by omega) (hco n (by omega))
      have q0 := hco n (by omega)
      have q2 := hnm n (by omega) (colS s n w).toNat (by omega)
      have q3 := nm_mul q2
      dsimp only
      omega

set_option maxHeartbeats 4000000 in
set_option maxRecDepth 100000 in
theorem l_joinE {G : eG} {ad : Nat → Nat} {h : Nat → va_E} {s : St} {z : Zc} {hm : Nat → va_E} (hw : CW G ad s z hm h) (k : Nat) (w : Int) (hk : k < 60) (hw1 : -10000000 ≤ w ∧ w ≤ 10000000) (hl : colOk s) (hcn : s_cn s ≤ 4) (hco : ∀ c, c < 4 → s_co s c ≤ 20) (hnm : ∀ c, c < 4 → ∀ x, x < 20 → s_nm s c x ≤ 700000) (i : Nat) (hi : i = s_cn s) (v9 v10 : Option Value) : EV G M_X4_joinAt cX4_joinAt none ad 54 (fun v h' => v = some (.int (b2i (decide (0 < (jW s w (s_cn s)).2)))) ∧ CW G ad (S_gr s (vp_updL (s_gr s) k (jI (jV s w)))) z hm h') 9 [some (.ref (ad 0)), some (.int (nI k)), some (.long (jI w)), none, some (.long (jI (jW s w i).1)), none, some (.long (jI (jW s w i).2)), none, some (.int (nI i)), v9, v10, none] [] h := by
  subst hi
  have q1 := jW_in (w := w) hl hcn hco hnm (s_cn s) hcn
  have e2 := jI_toInt (a := (jW s w (s_cn s)).2) (by omega) (by omega)
  have e1 := jI_toInt (a := (jW s w (s_cn s)).1) (by omega) (by omega)
  refine EV.iload (pc := 9) dX4_joinAt_9 rfl ?_
  refine EV.aload_n (pc := 11) dX4_joinAt_11 rfl ?_
  refine EV.getf (pc := 12) dX4_joinAt_12 fgX4_110 (by decide) hw.h0 rfl ?_
  refine EV.icmp_ge (pc := 15) (tgt := 78) dX4_joinAt_15 (by decide) (fun _ => ?_) (fun q => absurd ((nI_leI (by omega) (by omega)).mpr (Nat.le_refl _)) q)
  refine EV.aload_n (pc := 78) dX4_joinAt_78 rfl ?_
  refine EV.getf (pc := 79) dX4_joinAt_79 fgX4_29 (by decide) hw.h0 rfl ?_
  refine EV.iload_n (pc := 82) dX4_joinAt_82 rfl ?_
  refine EV.lload (pc := 83) dX4_joinAt_83 rfl ?_
  refine EV.lconst (pc := 85) (v := 0) dX4_joinAt_85 (by decide) ?_
  refine EV.lcmp_le (pc := 86) (tgt := 100) dX4_joinAt_86 dX4_joinAt_87 (by decide) (fun c86 => ?_) (fun c86 => ?_)
  · try simp only [Int64.le_iff_toInt_le, j_l0, e2] at c86
    refine EV.lconst (pc := 100) (v := 0) dX4_joinAt_100 (by decide) ?_
    refine EV.topl (y := jI (jV s w)) (by unfold jV; rw [if_neg (by omega)]; rfl) ?_
    refine EV.last (pc := 101) dX4_joinAt_101 (by decide) hw.h5 (vp_in_nI (show k < 60 by omega) (by omega)) ?_
    refine EV.abs (Pr := CW G ad (S_gr s (vp_updL (s_gr s) k (jI (jV s w)))) z hm) (by have q := hw.set_gr k (jI (jV s w)); rw [nI_clamp (by omega)]; exact q) (fun h hw => ?_)
    refine EV.lload (pc := 102) dX4_joinAt_102 rfl ?_
    refine EV.lconst (pc := 104) (v := 0) dX4_joinAt_104 (by decide) ?_
    refine EV.lcmp_le (pc := 105) (tgt := 113) dX4_joinAt_105 dX4_joinAt_106 (by decide) (fun c105 => ?_) (fun c105 => ?_)
    · try simp only [Int64.le_iff_toInt_le, j_l0, e2] at c105
      refine EV.iconst (pc := 113) (v := 0) dX4_joinAt_113 (by decide) ?_
      refine EV.iret (pc := 114) dX4_joinAt_114 (by rfl) ?_
      exact ⟨congrArg (fun z => some (Value.int z)) (by first | exact b2i_1 (by omega) | exact b2i_0 (by omega)), hw⟩
    · try simp only [Int64.le_iff_toInt_le, j_l0, e2] at c105
      refine EV.iconst (pc := 109) (v := 1) dX4_joinAt_109 (by decide) ?_
      refine EV.goto (pc := 110) (tgt := 114) dX4_joinAt_110 (by decide) ?_
      refine EV.iret (pc := 114) dX4_joinAt_114 (by rfl) ?_
      exact ⟨congrArg (fun z => some (Value.int z)) (by first | exact b2i_1 (by omega) | exact b2i_0 (by omega)), hw⟩
  · try simp only [Int64.le_iff_toInt_le, j_l0, e2] at c86
    refine EV.lload (pc := 90) dX4_joinAt_90 rfl ?_
    refine EV.lload (pc := 92) dX4_joinAt_92 rfl ?_
    refine EV.callSR1 (pc := 94) (M' := M_J9_floorDiv_f86c9) dX4_joinAt_94 lkX4_253 okS_J9_floorDiv_f86c9 (m_floorDivJ _ _ (by rw [e2]; omega)) (by decide) rfl rfl (Nat.le_of_ble_eq_true rfl) ?_
    refine EV.topl (y := jI (jV s w)) (by rw [e1, e2]; unfold jV; rw [if_pos (by omega)]) ?_
    refine EV.goto (pc := 97) (tgt := 101) dX4_joinAt_97 (by decide) ?_
    refine EV.last (pc := 101) dX4_joinAt_101 (by decide) hw.h5 (vp_in_nI (show k < 60 by omega) (by omega)) ?_
    refine EV.abs (Pr := CW G ad (S_gr s (vp_updL (s_gr s) k (jI (jV s w)))) z hm) (by have q := hw.set_gr k (jI (jV s w)); rw [nI_clamp (by omega)]; exact q) (fun h hw => ?_)
    refine EV.lload (pc := 102) dX4_joinAt_102 rfl ?_
    refine EV.lconst (pc := 104) (v := 0) dX4_joinAt_104 (by decide) ?_
    refine EV.lcmp_le (pc := 105) (tgt := 113) dX4_joinAt_105 dX4_joinAt_106 (by decide) (fun c105 => ?_) (fun c105 => ?_)
    · try simp only [Int64.le_iff_toInt_le, j_l0, e2] at c105
      refine EV.iconst (pc := 113) (v := 0) dX4_joinAt_113 (by decide) ?_
      refine EV.iret (pc := 114) dX4_joinAt_114 (by rfl) ?_
      exact ⟨congrArg (fun z => some (Value.int z)) (by first | exact b2i_1 (by omega) | exact b2i_0 (by omega)), hw⟩
    · try simp only [Int64.le_iff_toInt_le, j_l0, e2] at c105
      refine EV.iconst (pc := 109) (v := 1) dX4_joinAt_109 (by decide) ?_
      refine EV.goto (pc := 110) (tgt := 114) dX4_joinAt_110 (by decide) ?_
      refine EV.iret (pc := 114) dX4_joinAt_114 (by rfl) ?_
      exact ⟨congrArg (fun z => some (Value.int z)) (by first | exact b2i_1 (by omega) | exact b2i_0 (by omega)), hw⟩

set_option maxHeartbeats 4000000 in
set_option maxRecDepth 100000 in
theorem l_joinL {G : eG} {ad : Nat → Nat} {h : Nat → va_E} {s : St} {z : Zc} {hm : Nat → va_E} (hw : CW G ad s z hm h) (k : Nat) (w : Int) (hk : k < 60) (hw1 : -10000000 ≤ w ∧ w ≤ 10000000) (hl : colOk s) (hcn : s_cn s ≤ 4) (hco : ∀ c, c < 4 → s_co s c ≤ 20) (hnm : ∀ c, c < 4 → ∀ x, x < 20 → s_nm s c x ≤ 700000) : ∀ (n i : Nat) (v9 v10 : Option Value), i + n = s_cn s → EV G M_X4_joinAt cX4_joinAt none ad 54 (fun v h' => v = some (.int (b2i (decide (0 < (jW s w (s_cn s)).2)))) ∧ CW G ad (S_gr s (vp_updL (s_gr s) k (jI (jV s w)))) z hm h') 9 [some (.ref (ad 0)), some (.int (nI k)), some (.long (jI w)), none, some (.long (jI (jW s w i).1)), none, some (.long (jI (jW s w i).2)), none, some (.int (nI i)), v9, v10, none] [] h := by
  intro n
  induction n with
  | zero =>
    intro i v9 v10 hi
    exact l_joinE hw k w hk hw1 hl hcn hco hnm i (by omega) v9 v10
  | succ n ih =>
    intro i v9 v10 hi
    have hi2 : i < s_cn s := by omega
    have q0 := hco i (by omega)
    have q1 := colS_in (w := w) hl (show i < 4 by omega) q0
    have q2 := jW_in (w := w) hl hcn hco hnm i (by omega)
    refine EV.iload (pc := 9) dX4_joinAt_9 rfl ?_
    refine EV.aload_n (pc := 11) dX4_joinAt_11 rfl ?_
    refine EV.getf (pc := 12) dX4_joinAt_12 fgX4_110 (by decide) hw.h0 rfl ?_
    refine EV.icmp_ge (pc := 15) (tgt := 78) dX4_joinAt_15 (by decide) (fun q => absurd q (fun z => absurd ((nI_leI (a := s_cn s) (b := i) (by omega) (by omega)).mp z) (by omega))) (fun _ => ?_)
    refine EV.aload_n (pc := 18) dX4_joinAt_18 rfl ?_
    refine EV.getf (pc := 19) dX4_joinAt_19 fgX4_21 (by decide) hw.h0 rfl ?_
    refine EV.iload (pc := 22) dX4_joinAt_22 rfl ?_
    refine EV.aald (pc := 24) (t0 := 4) dX4_joinAt_24 rfl (by decide) hw.h3 (vp_in_nI (show i < 4 by omega) (by omega)) (v := .ref (ad (22 + 3 * i))) (by rw [nI_clamp (by omega)]; rfl) ?_
    refine EV.lload_n (pc := 25) dX4_joinAt_25 rfl ?_
    refine EV.callSR1 (pc := 26) (M' := M_X4_columnAt) dX4_joinAt_26 lkX4_319 okS_X4_columnAt (m_col hw i w (by omega) q0 hw1 (hl i (by omega))) (by decide) rfl rfl (Nat.le_of_ble_eq_true rfl) ?_
    refine EV.istore (pc := 29) dX4_joinAt_29 (by decide) (by dsimp only [lst1, lk] <;> rfl) ?_
    refine EV.iload (pc := 31) dX4_joinAt_31 rfl ?_
    refine EV.iconst (pc := 33) (v := -1) dX4_joinAt_33 (by decide) ?_
    refine EV.icmp_eq (pc := 34) (tgt := 72) dX4_joinAt_34 (by decide) (fun c34 => ?_) (fun c34 => ?_)
    · refine EV.iinc (pc := 72) dX4_joinAt_72 (by decide) rfl (by first | exact nI_inc _ | rfl) (by dsimp only [lst1, lk] <;> rfl) ?_
      refine EV.goto (pc := 75) (tgt := 9) dX4_joinAt_75 (by decide) ?_
      first
      | (have q4 := q3; refine EV.eq rfl ?_ rfl rfl (ih (i + 1) (some (.int (iI (colS s i w)))) (some (.long (jI (s_nm s i (colS s i w).toNat : Int)))) (by omega)); simp only [jW]; rw [if_neg c34] <;> rfl)
      | (rw [show (-1 : Int32) = iI (-1) from rfl, iI_eq (by omega) (by omega) (by omega) (by omega)] at c34; refine EV.eq rfl ?_ rfl rfl (ih (i + 1) (some (.int (iI (colS s i w)))) v10 (by omega)); simp only [jW]; rw [if_pos c34] <;> rfl)
    · rw [show (-1 : Int32) = iI (-1) from rfl, iI_eq (by omega) (by omega) (by omega) (by omega)] at c34
      have q3 := hnm i (by omega) (colS s i w).toNat (by omega)
      refine EV.aload_n (pc := 37) dX4_joinAt_37 rfl ?_
      refine EV.getf (pc := 38) dX4_joinAt_38 fgX4_21 (by decide) hw.h0 rfl ?_
      refine EV.iload (pc := 41) dX4_joinAt_41 rfl ?_
      refine EV.aald (pc := 43) (t0 := 4) dX4_joinAt_43 rfl (by decide) hw.h3 (vp_in_nI (show i < 4 by omega) (by omega)) (v := .ref (ad (22 + 3 * i))) (by rw [nI_clamp (by omega)]; rfl) ?_
      refine EV.iload (pc := 44) dX4_joinAt_44 rfl ?_
      refine EV.callVR1 (pc := 46) (M' := M_X0_at) dX4_joinAt_46 lkX4_162 okV_X0_at (m_kat (22 + 3 * i) (23 + 3 * i) (24 + 3 * i) (s_ca s i) (s_cb s i) (s_cr s i) (s_co s i) (s_nm s i) _ (by omega) (by omega) q0 (hw.kb' (show i < 4 by omega)) (hw.nm i (show i < 4 by omega))) (by decide) rfl rfl (Nat.le_of_ble_eq_true rfl) (show 22 + 3 * i < 54 by omega) (hw.kb' (show i < 4 by omega)) ?_
      refine EV.topl (y := jI (s_nm s i (colS s i w).toNat : Int)) (by rw [iI_toInt (by omega) (by omega), lN_jI]; congr 2; unfold nAt; rw [if_pos (by omega)]) ?_
      refine EV.lstore (pc := 49) dX4_joinAt_49 (by decide) (by dsimp only [lst2, lno, lk] <;> rfl) ?_
      refine EV.lload (pc := 51) dX4_joinAt_51 rfl ?_
      refine EV.lload (pc := 53) dX4_joinAt_53 rfl ?_
      refine EV.lload (pc := 55) dX4_joinAt_55 rfl ?_
      refine EV.lconst (pc := 57) (v := 1) dX4_joinAt_57 (by decide) ?_
      refine EV.ladd (pc := 58) dX4_joinAt_58 ?_
      refine EV.topl (y := jI ((s_nm s i (colS s i w).toNat : Int) + 1)) (by rw [show (1 : Int64) = jI 1 from jI_lit 1, jI_add]) ?_
      refine EV.lmul (pc := 59) dX4_joinAt_59 ?_
      refine EV.ladd (pc := 60) dX4_joinAt_60 ?_
      refine EV.topl (y := jI ((jW s w i).1 + (s_nm s i (colS s i w).toNat : Int) * ((s_nm s i (colS s i w).toNat : Int) + 1))) (by rw [jI_mul, jI_add]) ?_
      refine EV.lstore (pc := 61) dX4_joinAt_61 (by decide) (by dsimp only [lst2, lno, lk] <;> rfl) ?_
      refine EV.lload (pc := 63) dX4_joinAt_63 rfl ?_
      refine EV.lload (pc := 65) dX4_joinAt_65 rfl ?_
      refine EV.lconst (pc := 67) (v := 1) dX4_joinAt_67 (by decide) ?_
      refine EV.ladd (pc := 68) dX4_joinAt_68 ?_
      refine EV.topl (y := jI ((s_nm s i (colS s i w).toNat : Int) + 1)) (by rw [show (1 : Int64) = jI 1 from jI_lit 1, jI_add]) ?_
      refine EV.ladd (pc := 69) dX4_joinAt_69 ?_
      refine EV.topl (y := jI ((jW s w i).2 + ((s_nm s i (colS s i w).toNat : Int) + 1))) (jI_add _ _) ?_
      refine EV.lstore (pc := 70) dX4_joinAt_70 (by decide) (by dsimp only [lst2, lno, lk] <;> rfl) ?_
      refine EV.iinc (pc := 72) dX4_joinAt_72 (by decide) rfl (by first | exact nI_inc _ | rfl) (by dsimp only [lst1, lk] <;> rfl) ?_
      refine EV.goto (pc := 75) (tgt := 9) dX4_joinAt_75 (by decide) ?_
      first
      | (have q4 := q3; refine EV.eq rfl ?_ rfl rfl (ih (i + 1) (some (.int (iI (colS s i w)))) (some (.long (jI (s_nm s i (colS s i w).toNat : Int)))) (by omega)); simp only [jW]; rw [if_neg c34] <;> rfl)
      | (rw [show (-1 : Int32) = iI (-1) from rfl, iI_eq (by omega) (by omega) (by omega) (by omega)] at c34; refine EV.eq rfl ?_ rfl rfl (ih (i + 1) (some (.int (iI (colS s i w)))) v10 (by omega)); simp only [jW]; rw [if_pos c34] <;> rfl)

set_option maxHeartbeats 4000000 in
set_option maxRecDepth 100000 in
theorem m_joinAt {G : eG} {ad : Nat → Nat} {h : Nat → va_E}  {s : St} {z : Zc} {hm : Nat → va_E} (hw : CW G ad s z hm h) (k : Nat) (w : Int) (hk : k < 60) (hw1 : -10000000 ≤ w ∧ w ≤ 10000000) (hl : colOk s) (hcn : s_cn s ≤ 4) (hco : ∀ c, c < 4 → s_co s c ≤ 20) (hnm : ∀ c, c < 4 → ∀ x, x < 20 → s_nm s c x ≤ 700000) : MC G M_X4_joinAt cX4_joinAt ad 54 [.ref (ad 0), .int (nI k), .long (jI w)] h (fun v h' => v = some (.int (b2i (decide (0 < (jW s w (s_cn s)).2)))) ∧ CW G ad (S_gr s (vp_updL (s_gr s) k (jI (jV s w)))) z hm h') := by
  refine MC.of (by decide +kernel) (Nat.le_of_ble_eq_true rfl) (by dsimp only [linit, Nat.reduceSub, List.reduceReplicate] <;> rfl) ?_
  refine EV.lconst (pc := 0) (v := 0) dX4_joinAt_0 (by decide) ?_
  refine EV.lstore (pc := 1) dX4_joinAt_1 (by decide) (by dsimp only [lst2, lno, lk] <;> rfl) ?_
  refine EV.lconst (pc := 3) (v := 0) dX4_joinAt_3 (by decide) ?_
  refine EV.lstore (pc := 4) dX4_joinAt_4 (by decide) (by dsimp only [lst2, lno, lk] <;> rfl) ?_
  refine EV.iconst (pc := 6) (v := 0) dX4_joinAt_6 (by decide) ?_
  refine EV.istore (pc := 7) dX4_joinAt_7 (by decide) (by dsimp only [lst1, lk] <;> rfl) ?_
  exact l_joinL hw k w hk hw1 hl hcn hco hnm (s_cn s) 0 _ _ (by omega)

theorem jW_gr {s : St} {F : Nat → Int64} {w : Int} : ∀ n, jW (S_gr s F) w n = jW s w n
  | 0 => rfl
  | n + 1 => by
    have e : colS (S_gr s F) n w = colS s n w := rfl
    simp only [jW]
    rw [jW_gr n, e]
theorem jV_gr {s : St} {F : Nat → Int64} {w : Int} : jV (S_gr s F) w = jV s w := by
  unfold jV
  have e : jW (S_gr s F) w (s_cn (S_gr s F)) = jW s w (s_cn s) := jW_gr (s_cn s)
  rw [e]
theorem m_joinAtG {G : eG} {ad : Nat → Nat} {h : Nat → va_E} {s : St} {z : Zc} {hm : Nat → va_E} {F : Nat → Int64} (hw : CW G ad (S_gr s F) z hm h) (k : Nat) (w : Int) (hk : k < 60) (hw1 : -10000000 ≤ w ∧ w ≤ 10000000) (hl : colOk s) (hcn : s_cn s ≤ 4) (hco : ∀ c, c < 4 → s_co s c ≤ 20) (hnm : ∀ c, c < 4 → ∀ x, x < 20 → s_nm s c x ≤ 700000) : MC G M_X4_joinAt cX4_joinAt ad 54 [.ref (ad 0), .int (nI k), .long (jI w)] h (fun v h' => v = some (.int (b2i (decide (0 < (jW s w (s_cn s)).2)))) ∧ CW G ad (S_gr s (vp_updL F k (jI (jV s w)))) z hm h') := by
  refine MC.mono (m_joinAt (s := S_gr s F) hw k w hk hw1 hl hcn hco hnm) (fun v h' q => ?_)
  have e : jW (S_gr s F) w (s_cn (S_gr s F)) = jW s w (s_cn s) := jW_gr (s_cn s)
  rw [e, jV_gr] at q
  exact q
def grN (s : St) (g d : Int) : Nat → (Nat → Int64)
  | 0 => s_gr s
  | k + 1 => vp_updL (grN s g d k) k (jI (jV s (g + d * k)))
def hdN (s : St) (g d : Int) : Nat → Nat
  | 0 => 0
  | k + 1 => hdN s g d k + if 0 < (jW s (g + d * k) (s_cn s)).2 then 1 else 0
theorem hdN_le (s : St) (g d : Int) : ∀ n, hdN s g d n ≤ n
  | 0 => Nat.le_refl 0
  | n + 1 => by
    have h := hdN_le s g d n
    simp only [hdN]
    split <;> omega
def f_join (s : St) (g d n : Int32) : Int32 × St := if (-1000000 ≤ g.toInt ∧ g.toInt ≤ 1000000) ∧ (1 ≤ d.toInt ∧ d.toInt ≤ 100000) ∧ (1 ≤ n.toInt ∧ n.toInt ≤ 60) then (if cnt (s_li s) (s_cn s) = 0 then (-103, s) else (nI (hdN s g.toInt d.toInt n.toInt.toNat), S_gc (S_gr s (grN s g.toInt d.toInt n.toInt.toNat)) n.toInt.toNat)) else (-102, s)
theorem gd_in {g d : Int} {k : Nat} (hg : -1000000 ≤ g ∧ g ≤ 1000000) (hd : 1 ≤ d ∧ d ≤ 100000) (hk : k < 60) : -10000000 ≤ g + d * k ∧ g + d * k ≤ 10000000 ∧ -10000000 ≤ d * (k : Int) ∧ d * (k : Int) ≤ 10000000 := by
  have h1 : 0 ≤ d * (k : Int) := Int.mul_nonneg (by omega) (by omega)
  have h2 : d * (k : Int) ≤ 100000 * 60 := Int.mul_le_mul hd.2 (by omega) (by omega) (by omega)
  omega

set_option maxHeartbeats 4000000 in
set_option maxRecDepth 100000 in
theorem l_joinZ {G : eG} {ad : Nat → Nat} {h : Nat → va_E} {t : St} {z : Zc} {hm : Nat → va_E} (hw : CW G ad t z hm h) (i : Nat) (lv : List (Option Value)) (post : eP) (k : ∀ h, CW G ad (S_gc t i) z hm h → EV G M_X4_join cX4_join none ad 54 post 88 lv [] h) : EV G M_X4_join cX4_join none ad 54 post 85 lv [.int (nI i), .ref (ad 0)] h := by
  refine EV.putf (pc := 85) dX4_join_85 fpX4_210 (by decide) hw.h0 rfl rfl (Nat.le_of_ble_eq_true rfl) ?_
  refine EV.abs (Pr := CW G ad (S_gc t i) z hm) (hw.set_gc i) (fun h hw => ?_)
  exact k h hw

set_option maxHeartbeats 4000000 in
set_option maxRecDepth 100000 in
theorem l_joinY {G : eG} {ad : Nat → Nat} {h : Nat → va_E} {t : St} {hm : Nat → va_E} (N : Nat) (v0 v1 v2 v3 v5 : Option Value) (hw : ∃ z : Zc, CW G ad t z hm h) : EV G M_X4_join cX4_join none ad 54 (PC G ad hm (.int (nI N)) t) 88 [v0, v1, v2, v3, some (.int (nI N)), v5] [] h := by
  refine EV.iload (pc := 88) dX4_join_88 rfl ?_
  exact EV.iret (pc := 90) dX4_join_90 trivial ⟨rfl, hw⟩

set_option maxHeartbeats 4000000 in
set_option maxRecDepth 100000 in
theorem l_join {G : eG} {ad : Nat → Nat} {s : St} {z : Zc} {hm0 : Nat → va_E} (g d : Int32) (m : Nat) (hg : -1000000 ≤ g.toInt ∧ g.toInt ≤ 1000000) (hd : 1 ≤ d.toInt ∧ d.toInt ≤ 100000) (hm : m ≤ 60) (hl : colOk s) (hcn : s_cn s ≤ 4) (hco : ∀ c, c < 4 → s_co s c ≤ 20) (hnm : ∀ c, c < 4 → ∀ x, x < 20 → s_nm s c x ≤ 700000) : ∀ (n i : Nat) (h : Nat → va_E), i + n = m → CW G ad (S_gr s (grN s g.toInt d.toInt i)) z hm0 h → EV G M_X4_join cX4_join none ad 54 (PC G ad hm0 (.int (nI (hdN s g.toInt d.toInt m))) (S_gc (S_gr s (grN s g.toInt d.toInt m)) m)) 50 [some (.ref (ad 0)), some (.int g), some (.int d), some (.int (nI m)), some (.int (nI (hdN s g.toInt d.toInt i))), some (.int (nI i))] [] h := by
  intro n
  induction n with
  | zero =>
    intro i h hi hw
    have ei : i = m := by omega
    subst ei
    refine EV.iload (pc := 50) dX4_join_50 rfl ?_
    refine EV.iload_n (pc := 52) dX4_join_52 rfl ?_
    refine EV.icmp_ge (pc := 53) (tgt := 83) dX4_join_53 (by decide) (fun _ => ?_) (fun q => absurd ((nI_leI (by omega) (by omega)).mpr (Nat.le_refl _)) q)
    refine EV.aload_n (pc := 83) dX4_join_83 rfl ?_
    refine EV.iload_n (pc := 84) dX4_join_84 rfl ?_
    exact l_joinZ hw i _ _ (fun h hw => l_joinY (hdN s g.toInt d.toInt i) _ _ _ _ _ ⟨z, hw⟩)
  | succ n ih =>
    intro i h hi hw
    have hi2 : i < m := by omega
    have qg := gd_in (k := i) hg hd (by omega)
    refine EV.iload (pc := 50) dX4_join_50 rfl ?_
    refine EV.iload_n (pc := 52) dX4_join_52 rfl ?_
    refine EV.icmp_ge (pc := 53) (tgt := 83) dX4_join_53 (by decide) (fun q => absurd q (fun z => absurd ((nI_leI (a := m) (b := i) (by omega) (by omega)).mp z) (by omega))) (fun _ => ?_)
    refine EV.aload_n (pc := 56) dX4_join_56 rfl ?_
    refine EV.iload (pc := 57) dX4_join_57 rfl ?_
    refine EV.iload_n (pc := 59) dX4_join_59 rfl ?_
    refine EV.i2l (pc := 60) dX4_join_60 ?_
    refine EV.topl (y := jI g.toInt) (i_l _) ?_
    refine EV.iload_n (pc := 61) dX4_join_61 rfl ?_
    refine EV.i2l (pc := 62) dX4_join_62 ?_
    refine EV.topl (y := jI d.toInt) (i_l _) ?_
    refine EV.iload (pc := 63) dX4_join_63 rfl ?_
    refine EV.i2l (pc := 65) dX4_join_65 ?_
    refine EV.topl (y := jI (i : Int)) (by rw [nI_L (by omega), lN_jI]) ?_
    refine EV.lmul (pc := 66) dX4_join_66 ?_
    refine EV.topl (y := jI (d.toInt * (i : Int))) (jI_mul _ _) ?_
    refine EV.ladd (pc := 67) dX4_join_67 ?_
    refine EV.topl (y := jI (g.toInt + d.toInt * (i : Int))) (jI_add _ _) ?_
    refine EV.callVPi (pc := 68) (M' := M_X4_joinAt) dX4_join_68 lkX4_206 okV_X4_joinAt (m_joinAtG hw i (g.toInt + d.toInt * (i : Int)) (by omega) (by omega) hl hcn hco hnm) (by decide) rfl rfl (Nat.le_of_ble_eq_true rfl) (by decide) hw.h0 (fun h hw => ?_)
    refine EV.if_eq (pc := 71) (tgt := 77) dX4_join_71 (by decide) (fun c71 => ?_) (fun c71 => ?_)
    · replace c71 := b2i_F c71
      refine EV.iinc (pc := 77) dX4_join_77 (by decide) rfl (by first | exact nI_inc _ | rfl) (by dsimp only [lst1, lk] <;> rfl) ?_
      refine EV.goto (pc := 80) (tgt := 50) dX4_join_80 (by decide) ?_
      refine EV.eq rfl ?_ rfl rfl (ih (i + 1) h (by omega) hw)
      simp only [hdN]
      first | (rw [if_pos c71] <;> rfl) | (rw [if_neg c71] <;> rfl)
    · replace c71 := b2i_T c71
      refine EV.iinc (pc := 74) dX4_join_74 (by decide) rfl (by first | exact nI_inc _ | rfl) (by dsimp only [lst1, lk] <;> rfl) ?_
      refine EV.iinc (pc := 77) dX4_join_77 (by decide) rfl (by first | exact nI_inc _ | rfl) (by dsimp only [lst1, lk] <;> rfl) ?_
      refine EV.goto (pc := 80) (tgt := 50) dX4_join_80 (by decide) ?_
      refine EV.eq rfl ?_ rfl rfl (ih (i + 1) h (by omega) hw)
      simp only [hdN]
      first | (rw [if_pos c71] <;> rfl) | (rw [if_neg c71] <;> rfl)

set_option maxHeartbeats 4000000 in
set_option maxRecDepth 100000 in
theorem p_join {G : eG} {ad : Nat → Nat} {h : Nat → va_E} {s : St} {z : Zc} {hm : Nat → va_E} (hw : CW G ad s z hm h) (hI : Inv s) (g d n : Int32)  : MC G M_X4_join cX4_join ad 54 [.ref (ad 0), .int g, .int d, .int n] h (PC G ad hm (.int (f_join s g d n).1) (f_join s g d n).2) := by
  have hcn : s_cn s ≤ 4 := hI.2.2.1
  have hq := cnt_le (s_li s) (s_cn s)
  have en := nI_t (show cnt (s_li s) (s_cn s) < 2147483648 by omega)
  refine MC.of (by decide +kernel) (Nat.le_of_ble_eq_true rfl) (by dsimp only [linit, Nat.reduceSub, List.reduceReplicate] <;> rfl) ?_
  refine EV.iload_n (pc := 0) dX4_join_0 rfl ?_
  refine EV.ldc (pc := 1) dX4_join_1 kcX4_193 ?_
  refine EV.ldc (pc := 3) dX4_join_3 kcX4_171 ?_
  refine EV.callSR1 (pc := 5) (M' := M_X4_within) dX4_join_5 lkX4_106 okS_X4_within (m_within _ _ _) (by decide) rfl rfl (Nat.le_of_ble_eq_true rfl) ?_
  refine EV.if_eq (pc := 8) (tgt := 31) dX4_join_8 (by decide) (fun c8 => ?_) (fun c8 => ?_)
  · replace c8 := b2i_F c8
    try simp only [Int32.lt_iff_toInt_lt, Int32.le_iff_toInt_le, ← Int32.toInt_inj, Int64.lt_iff_toInt_lt, Int64.le_iff_toInt_le, ← Int64.toInt_inj, Int32.toInt_toInt64, i_l0, i_l1, i_l2, i_l5, i_l19, i_m1, j_l0, j_l1, j_l5, i_l3, i_l4, i_l6, i_l7, i_l8, i_l9, i_l12, i_l16, i_l20, i_l60, i_l64, i_l100, i_l200, i_l304, i_l2000, i_l10000, i_l100000, i_l1000000, i_n1000000, i_n19, i_n101, en] at c8
    refine EV.bipush (pc := 31) (v := -102) dX4_join_31 (by decide) ?_
    refine EV.iret (pc := 33) dX4_join_33 trivial ?_
    exact PC.i (by unfold f_join; rw [if_neg (by omega)]) hw
  · replace c8 := b2i_T c8
    try simp only [Int32.lt_iff_toInt_lt, Int32.le_iff_toInt_le, ← Int32.toInt_inj, Int64.lt_iff_toInt_lt, Int64.le_iff_toInt_le, ← Int64.toInt_inj, Int32.toInt_toInt64, i_l0, i_l1, i_l2, i_l5, i_l19, i_m1, j_l0, j_l1, j_l5, i_l3, i_l4, i_l6, i_l7, i_l8, i_l9, i_l12, i_l16, i_l20, i_l60, i_l64, i_l100, i_l200, i_l304, i_l2000, i_l10000, i_l100000, i_l1000000, i_n1000000, i_n19, i_n101, en] at c8
    refine EV.iload_n (pc := 11) dX4_join_11 rfl ?_
    refine EV.iconst (pc := 12) (v := 1) dX4_join_12 (by decide) ?_
    refine EV.ldc (pc := 13) dX4_join_13 kcX4_194 ?_
    refine EV.callSR1 (pc := 15) (M' := M_X4_within) dX4_join_15 lkX4_106 okS_X4_within (m_within _ _ _) (by decide) rfl rfl (Nat.le_of_ble_eq_true rfl) ?_
    refine EV.if_eq (pc := 18) (tgt := 31) dX4_join_18 (by decide) (fun c18 => ?_) (fun c18 => ?_)
    · replace c18 := b2i_F c18
      try simp only [Int32.lt_iff_toInt_lt, Int32.le_iff_toInt_le, ← Int32.toInt_inj, Int64.lt_iff_toInt_lt, Int64.le_iff_toInt_le, ← Int64.toInt_inj, Int32.toInt_toInt64, i_l0, i_l1, i_l2, i_l5, i_l19, i_m1, j_l0, j_l1, j_l5, i_l3, i_l4, i_l6, i_l7, i_l8, i_l9, i_l12, i_l16, i_l20, i_l60, i_l64, i_l100, i_l200, i_l304, i_l2000, i_l10000, i_l100000, i_l1000000, i_n1000000, i_n19, i_n101, en] at c18
      refine EV.bipush (pc := 31) (v := -102) dX4_join_31 (by decide) ?_
      refine EV.iret (pc := 33) dX4_join_33 trivial ?_
      exact PC.i (by unfold f_join; rw [if_neg (by omega)]) hw
    · replace c18 := b2i_T c18
      try simp only [Int32.lt_iff_toInt_lt, Int32.le_iff_toInt_le, ← Int32.toInt_inj, Int64.lt_iff_toInt_lt, Int64.le_iff_toInt_le, ← Int64.toInt_inj, Int32.toInt_toInt64, i_l0, i_l1, i_l2, i_l5, i_l19, i_m1, j_l0, j_l1, j_l5, i_l3, i_l4, i_l6, i_l7, i_l8, i_l9, i_l12, i_l16, i_l20, i_l60, i_l64, i_l100, i_l200, i_l304, i_l2000, i_l10000, i_l100000, i_l1000000, i_n1000000, i_n19, i_n101, en] at c18
      refine EV.iload_n (pc := 21) dX4_join_21 rfl ?_
      refine EV.iconst (pc := 22) (v := 1) dX4_join_22 (by decide) ?_
      refine EV.bipush (pc := 23) (v := 60) dX4_join_23 (by decide) ?_
      refine EV.callSR1 (pc := 25) (M' := M_X4_within) dX4_join_25 lkX4_106 okS_X4_within (m_within _ _ _) (by decide) rfl rfl (Nat.le_of_ble_eq_true rfl) ?_
      refine EV.if_ne (pc := 28) (tgt := 34) dX4_join_28 (by decide) (fun c28 => ?_) (fun c28 => ?_)
      · replace c28 := b2i_T c28
        try simp only [Int32.lt_iff_toInt_lt, Int32.le_iff_toInt_le, ← Int32.toInt_inj, Int64.lt_iff_toInt_lt, Int64.le_iff_toInt_le, ← Int64.toInt_inj, Int32.toInt_toInt64, i_l0, i_l1, i_l2, i_l5, i_l19, i_m1, j_l0, j_l1, j_l5, i_l3, i_l4, i_l6, i_l7, i_l8, i_l9, i_l12, i_l16, i_l20, i_l60, i_l64, i_l100, i_l200, i_l304, i_l2000, i_l10000, i_l100000, i_l1000000, i_n1000000, i_n19, i_n101, en] at c28
        refine EV.aload_n (pc := 34) dX4_join_34 rfl ?_
        refine EV.callVR1 (pc := 35) (M' := M_X4_lawCount) dX4_join_35 lkX4_202 okV_X4_lawCount (m_lawCount hw hI) (by decide) rfl rfl (Nat.le_of_ble_eq_true rfl) (by decide) hw.h0 ?_
        refine EV.if_ne (pc := 38) (tgt := 44) dX4_join_38 (by decide) (fun c38 => ?_) (fun c38 => ?_)
        · try simp only [Int32.lt_iff_toInt_lt, Int32.le_iff_toInt_le, ← Int32.toInt_inj, Int64.lt_iff_toInt_lt, Int64.le_iff_toInt_le, ← Int64.toInt_inj, Int32.toInt_toInt64, i_l0, i_l1, i_l2, i_l5, i_l19, i_m1, j_l0, j_l1, j_l5, i_l3, i_l4, i_l6, i_l7, i_l8, i_l9, i_l12, i_l16, i_l20, i_l60, i_l64, i_l100, i_l200, i_l304, i_l2000, i_l10000, i_l100000, i_l1000000, i_n1000000, i_n19, i_n101, en] at c38
          obtain ⟨n1, rfl, en1, ln1⟩ := i_nat (show 0 ≤ n.toInt by omega)
          refine EV.iconst (pc := 44) (v := 0) dX4_join_44 (by decide) ?_
          refine EV.istore (pc := 45) dX4_join_45 (by decide) (by dsimp only [lst1, lk] <;> rfl) ?_
          refine EV.iconst (pc := 47) (v := 0) dX4_join_47 (by decide) ?_
          refine EV.istore (pc := 48) dX4_join_48 (by decide) (by dsimp only [lst1, lk] <;> rfl) ?_
          have e6 : f_join s g d (nI n1) = (nI (hdN s g.toInt d.toInt n1), S_gc (S_gr s (grN s g.toInt d.toInt n1)) n1) := by unfold f_join; rw [if_pos (by omega), if_neg (by omega), nI_tn (by omega)]
          rw [e6]
          exact l_join g d n1 (by omega) (by omega) (by omega) hI.2.2.2.2.2.1 hcn (fun c hc => (hI.2.2.2.1 c hc).2.2.2) hI.2.2.2.2.1 n1 0 h (by omega) hw
        · try simp only [Int32.lt_iff_toInt_lt, Int32.le_iff_toInt_le, ← Int32.toInt_inj, Int64.lt_iff_toInt_lt, Int64.le_iff_toInt_le, ← Int64.toInt_inj, Int32.toInt_toInt64, i_l0, i_l1, i_l2, i_l5, i_l19, i_m1, j_l0, j_l1, j_l5, i_l3, i_l4, i_l6, i_l7, i_l8, i_l9, i_l12, i_l16, i_l20, i_l60, i_l64, i_l100, i_l200, i_l304, i_l2000, i_l10000, i_l100000, i_l1000000, i_n1000000, i_n19, i_n101, en] at c38
          refine EV.bipush (pc := 41) (v := -103) dX4_join_41 (by decide) ?_
          refine EV.iret (pc := 43) dX4_join_43 trivial ?_
          exact PC.i (by unfold f_join; rw [if_pos (by omega), if_pos (by omega)]) hw
      · replace c28 := b2i_F c28
        try simp only [Int32.lt_iff_toInt_lt, Int32.le_iff_toInt_le, ← Int32.toInt_inj, Int64.lt_iff_toInt_lt, Int64.le_iff_toInt_le, ← Int64.toInt_inj, Int32.toInt_toInt64, i_l0, i_l1, i_l2, i_l5, i_l19, i_m1, j_l0, j_l1, j_l5, i_l3, i_l4, i_l6, i_l7, i_l8, i_l9, i_l12, i_l16, i_l20, i_l60, i_l64, i_l100, i_l200, i_l304, i_l2000, i_l10000, i_l100000, i_l1000000, i_n1000000, i_n19, i_n101, en] at c28
        refine EV.bipush (pc := 31) (v := -102) dX4_join_31 (by decide) ?_
        refine EV.iret (pc := 33) dX4_join_33 trivial ?_
        exact PC.i (by unfold f_join; rw [if_neg (by omega)]) hw
