noncomputable def zP (z : Zm) (l : List Int) : Zm := M_pp (M_pm z (nI l.length)) (plA l (m_pp z))

set_option maxHeartbeats 4000000 in
set_option maxRecDepth 100000 in
theorem l_nfind {G : eG} {ad : Nat → Nat} {s : St} {z : Zm} {hm : Nat → va_E} (k : Nat) (t : Int64) (hI : Inv s) (hk4 : k < 4) : ∀ (n i : Nat) (h : Nat → va_E) (v5 v7 v9 : Option Value), i + n = s_co s k - 2 → MW G ad s (zP z (pkN (s_nm s k) t.toInt i)) hm h → EV G M_X5_find cX5_find none ad 54 (fun v h' => v = none ∧ MW G ad s (zP z (pks s k t.toInt)) hm h') 8 [some (.ref (ad 34)), some (.int (nI k)), some (.long t), none, some (.int (nI (i + 1))), v5, none, v7, none, v9, none] [] h := by
  have hco : s_co s k ≤ 20 := (hI.2.2.2.1 k hk4).2.2.2
  have hnb := hI.2.2.2.2.1 k hk4
  have e1 : (nI (s_co s k) - 1).toInt = (s_co s k : Int) - 1 := by rw [nI_iI, show (1 : Int32) = iI 1 from iI_lit 1, iI_sub, iI_toInt (by omega) (by omega)]
  intro n
  induction n with
  | zero =>
    intro i h v5 v7 v9 hi hw
    have ei : i = s_co s k - 2 := by omega
    subst ei
    refine EV.iload (pc := 8) dX5_find_8 rfl ?_
    refine EV.aload_n (pc := 10) dX5_find_10 rfl ?_
    refine EV.getf (pc := 11) dX5_find_11 fgX5_38 (by decide) hw.h34 rfl ?_
    refine EV.iload_n (pc := 14) dX5_find_14 rfl ?_
    refine EV.iald (pc := 15) dX5_find_15 (by decide) hw.h44 (vp_in_nI (show k < 4 by omega) (by omega)) ?_
    refine EV.topi (y := nI (s_co s k)) (by rw [nI_clamp (by omega)]) ?_
    refine EV.iconst (pc := 16) (v := 1) dX5_find_16 (by decide) ?_
    refine EV.isub (pc := 17) dX5_find_17 ?_
    refine EV.icmp_ge (pc := 18) (tgt := 142) dX5_find_18 (by decide) (fun _ => ?_) (fun q => absurd (by rw [Int32.le_iff_toInt_le, nI_t (by omega), e1]; omega) q)
    exact EV.vret (pc := 142) dX5_find_142 trivial ⟨rfl, hw⟩
  | succ n ih =>
    intro i h v5 v7 v9 hi hw
    have hi2 : i < s_co s k - 2 := by omega
    have hl := pkN_len (s_nm s k) t.toInt i
    have b1 := hnb i (by omega)
    have b2 := hnb (i + 1) (by omega)
    have b3 := hnb (i + 1 + 1) (by omega)
    have eL := lN_t (show s_nm s k i < 9223372036854775808 by omega)
    have eO := lN_t (show s_nm s k (i + 1) < 9223372036854775808 by omega)
    have eR := lN_t (show s_nm s k (i + 1 + 1) < 9223372036854775808 by omega)
    refine EV.iload (pc := 8) dX5_find_8 rfl ?_
    refine EV.aload_n (pc := 10) dX5_find_10 rfl ?_
    refine EV.getf (pc := 11) dX5_find_11 fgX5_38 (by decide) hw.h34 rfl ?_
    refine EV.iload_n (pc := 14) dX5_find_14 rfl ?_
    refine EV.iald (pc := 15) dX5_find_15 (by decide) hw.h44 (vp_in_nI (show k < 4 by omega) (by omega)) ?_
    refine EV.topi (y := nI (s_co s k)) (by rw [nI_clamp (by omega)]) ?_
    refine EV.iconst (pc := 16) (v := 1) dX5_find_16 (by decide) ?_
    refine EV.isub (pc := 17) dX5_find_17 ?_
    refine EV.icmp_ge (pc := 18) (tgt := 142) dX5_find_18 (by decide) (fun q => absurd q (by rw [Int32.le_iff_toInt_le, nI_t (by omega), e1]; omega)) (fun _ => ?_)
    refine EV.aload_n (pc := 21) dX5_find_21 rfl ?_
    refine EV.getf (pc := 22) dX5_find_22 fgX5_41 (by decide) hw.h34 rfl ?_
    refine EV.bipush (pc := 25) (v := 20) dX5_find_25 (by decide) ?_
    refine EV.iload_n (pc := 27) dX5_find_27 rfl ?_
    refine EV.imul (pc := 28) dX5_find_28 ?_
    refine EV.iload (pc := 29) dX5_find_29 rfl ?_
    refine EV.iadd (pc := 31) dX5_find_31 ?_
    refine EV.iconst (pc := 32) (v := 1) dX5_find_32 (by decide) ?_
    refine EV.isub (pc := 33) dX5_find_33 ?_
    refine EV.topi (y := nI (20 * k + i)) (by rw [ix2, nI_m1 (by omega)]; rfl) ?_
    refine EV.lald (pc := 34) dX5_find_34 (by decide) hw.h45 (vp_in_nI (show 20 * k + i < 80 by omega) (by omega)) ?_
    refine EV.topl (y := lN (s_nm s k i)) (by rw [nI_clamp (by omega)]; exact congrArg lN (n_rd2 (f := s_nm s) (by omega))) ?_
    refine EV.lstore (pc := 35) dX5_find_35 (by decide) (by dsimp only [lst2, lno, lk] <;> rfl) ?_
    refine EV.aload_n (pc := 37) dX5_find_37 rfl ?_
    refine EV.getf (pc := 38) dX5_find_38 fgX5_41 (by decide) hw.h34 rfl ?_
    refine EV.bipush (pc := 41) (v := 20) dX5_find_41 (by decide) ?_
    refine EV.iload_n (pc := 43) dX5_find_43 rfl ?_
    refine EV.imul (pc := 44) dX5_find_44 ?_
    refine EV.iload (pc := 45) dX5_find_45 rfl ?_
    refine EV.iadd (pc := 47) dX5_find_47 ?_
    refine EV.topi (y := nI (20 * k + (i + 1))) (ix2 k (i + 1)) ?_
    refine EV.lald (pc := 48) dX5_find_48 (by decide) hw.h45 (vp_in_nI (show 20 * k + (i + 1) < 80 by omega) (by omega)) ?_
    refine EV.topl (y := lN (s_nm s k (i + 1))) (by rw [nI_clamp (by omega)]; exact congrArg lN (n_rd2 (f := s_nm s) (by omega))) ?_
    refine EV.lstore (pc := 49) dX5_find_49 (by decide) (by dsimp only [lst2, lno, lk] <;> rfl) ?_
    refine EV.aload_n (pc := 51) dX5_find_51 rfl ?_
    refine EV.getf (pc := 52) dX5_find_52 fgX5_41 (by decide) hw.h34 rfl ?_
    refine EV.bipush (pc := 55) (v := 20) dX5_find_55 (by decide) ?_
    refine EV.iload_n (pc := 57) dX5_find_57 rfl ?_
    refine EV.imul (pc := 58) dX5_find_58 ?_
    refine EV.iload (pc := 59) dX5_find_59 rfl ?_
    refine EV.iadd (pc := 61) dX5_find_61 ?_
    refine EV.iconst (pc := 62) (v := 1) dX5_find_62 (by decide) ?_
    refine EV.iadd (pc := 63) dX5_find_63 ?_
    refine EV.topi (y := nI (20 * k + (i + 1 + 1))) (by rw [ix2, nI_p1]; rfl) ?_
    refine EV.lald (pc := 64) dX5_find_64 (by decide) hw.h45 (vp_in_nI (show 20 * k + (i + 1 + 1) < 80 by omega) (by omega)) ?_
    refine EV.topl (y := lN (s_nm s k (i + 1 + 1))) (by rw [nI_clamp (by omega)]; exact congrArg lN (n_rd2 (f := s_nm s) (by omega))) ?_
    refine EV.lstore (pc := 65) dX5_find_65 (by decide) (by dsimp only [lst2, lno, lk] <;> rfl) ?_
    refine EV.lload (pc := 67) dX5_find_67 rfl ?_
    refine EV.lload (pc := 69) dX5_find_69 rfl ?_
    refine EV.lcmp_le (pc := 71) (tgt := 136) dX5_find_71 dX5_find_72 (by decide) (fun c71 => ?_) (fun c71 => ?_)
    · try simp only [Int64.lt_iff_toInt_lt, Int64.le_iff_toInt_le, eL, eO, eR] at c71
      refine EV.iinc (pc := 136) dX5_find_136 (by decide) rfl (by first | exact nI_inc _ | rfl) (by dsimp only [lst1, lk] <;> rfl) ?_
      refine EV.goto (pc := 139) (tgt := 8) dX5_find_139 (by decide) ?_
      first
      | exact ih (i + 1) h _ _ _ (by omega) hw
      | (have en : pkN (s_nm s k) t.toInt (i + 1) = pkN (s_nm s k) t.toInt i := pkN_n (fun q => by have q1 : s_nm s k i < s_nm s k (i + 1) := q.1; have q2 : s_nm s k (i + 1 + 1) ≤ s_nm s k (i + 1) := q.2.1; have q3 : t.toInt ≤ s_nm s k (i + 1) := q.2.2; omega); exact ih (i + 1) h _ _ _ (by omega) (by rw [en]; exact hw))
    · try simp only [Int64.lt_iff_toInt_lt, Int64.le_iff_toInt_le, eL, eO, eR] at c71
      refine EV.lload (pc := 75) dX5_find_75 rfl ?_
      refine EV.lload (pc := 77) dX5_find_77 rfl ?_
      refine EV.lcmp_lt (pc := 79) (tgt := 136) dX5_find_79 dX5_find_80 (by decide) (fun c79 => ?_) (fun c79 => ?_)
      · try simp only [Int64.lt_iff_toInt_lt, Int64.le_iff_toInt_le, eL, eO, eR] at c79
        refine EV.iinc (pc := 136) dX5_find_136 (by decide) rfl (by first | exact nI_inc _ | rfl) (by dsimp only [lst1, lk] <;> rfl) ?_
        refine EV.goto (pc := 139) (tgt := 8) dX5_find_139 (by decide) ?_
        first
        | exact ih (i + 1) h _ _ _ (by omega) hw
        | (have en : pkN (s_nm s k) t.toInt (i + 1) = pkN (s_nm s k) t.toInt i := pkN_n (fun q => by have q1 : s_nm s k i < s_nm s k (i + 1) := q.1; have q2 : s_nm s k (i + 1 + 1) ≤ s_nm s k (i + 1) := q.2.1; have q3 : t.toInt ≤ s_nm s k (i + 1) := q.2.2; omega); exact ih (i + 1) h _ _ _ (by omega) (by rw [en]; exact hw))
      · try simp only [Int64.lt_iff_toInt_lt, Int64.le_iff_toInt_le, eL, eO, eR] at c79
        refine EV.lload (pc := 83) dX5_find_83 rfl ?_
        refine EV.lload_n (pc := 85) dX5_find_85 rfl ?_
        refine EV.lcmp_lt (pc := 86) (tgt := 136) dX5_find_86 dX5_find_87 (by decide) (fun c86 => ?_) (fun c86 => ?_)
        · try simp only [Int64.lt_iff_toInt_lt, Int64.le_iff_toInt_le, eL, eO, eR] at c86
          refine EV.iinc (pc := 136) dX5_find_136 (by decide) rfl (by first | exact nI_inc _ | rfl) (by dsimp only [lst1, lk] <;> rfl) ?_
          refine EV.goto (pc := 139) (tgt := 8) dX5_find_139 (by decide) ?_
          first
          | exact ih (i + 1) h _ _ _ (by omega) hw
          | (have en : pkN (s_nm s k) t.toInt (i + 1) = pkN (s_nm s k) t.toInt i := pkN_n (fun q => by have q1 : s_nm s k i < s_nm s k (i + 1) := q.1; have q2 : s_nm s k (i + 1 + 1) ≤ s_nm s k (i + 1) := q.2.1; have q3 : t.toInt ≤ s_nm s k (i + 1) := q.2.2; omega); exact ih (i + 1) h _ _ _ (by omega) (by rw [en]; exact hw))
        · try simp only [Int64.lt_iff_toInt_lt, Int64.le_iff_toInt_le, eL, eO, eR] at c86
          refine EV.aload_n (pc := 90) dX5_find_90 rfl ?_
          refine EV.getf (pc := 91) dX5_find_91 fgX5_66 (by decide) hw.h34 rfl ?_
          refine EV.aload_n (pc := 94) dX5_find_94 rfl ?_
          refine EV.getf (pc := 95) dX5_find_95 fgX5_162 (by decide) hw.h34 rfl ?_
          refine EV.topi (y := nI (pkN (s_nm s k) t.toInt i).length) rfl ?_
          refine EV.bipush (pc := 98) (v := 64) dX5_find_98 (by decide) ?_
          refine EV.iload (pc := 100) dX5_find_100 rfl ?_
          refine EV.imul (pc := 102) dX5_find_102 ?_
          refine EV.topi (y := iI (64 * ((i + 1 : Nat) : Int))) (by rw [show (64 : Int32) = iI 64 from iI_lit 64, nI_iI, iI_mul]) ?_
          refine EV.ldc2 (pc := 103) dX5_find_103 kcX5_165 ?_
          refine EV.lload (pc := 106) dX5_find_106 rfl ?_
          refine EV.lload (pc := 108) dX5_find_108 rfl ?_
          refine EV.lsub (pc := 110) dX5_find_110 ?_
          refine EV.lmul (pc := 111) dX5_find_111 ?_
          refine EV.topl (y := jI (64 * ((s_nm s k (i + 1 + 1) : Int) - (s_nm s k i : Int)))) (by rw [show (64 : Int64) = jI 64 from jI_lit 64, lN_jI, lN_jI, jI_sub, jI_mul]) ?_
          refine EV.lload (pc := 112) dX5_find_112 rfl ?_
          refine EV.lload (pc := 114) dX5_find_114 rfl ?_
          refine EV.ladd (pc := 116) dX5_find_116 ?_
          refine EV.lload (pc := 117) dX5_find_117 rfl ?_
          refine EV.ladd (pc := 119) dX5_find_119 ?_
          refine EV.topl (y := jI ((s_nm s k i : Int) + (s_nm s k (i + 1) : Int) + (s_nm s k (i + 1 + 1) : Int))) (by rw [lN_jI, lN_jI, lN_jI, jI_add, jI_add]) ?_
          refine EV.callSR1 (pc := 120) (M' := M_X5_floor) dX5_find_120 lkX5_120 okS_X5_floor (n_floor _ _ (by rw [jI_toInt (by omega) (by omega)]; omega)) (by decide) rfl rfl (Nat.le_of_ble_eq_true rfl) ?_
          refine EV.topl (y := jI ((64 * ((s_nm s k (i + 1 + 1) : Int) - (s_nm s k i : Int))) / ((s_nm s k i : Int) + (s_nm s k (i + 1) : Int) + (s_nm s k (i + 1 + 1) : Int)))) (by rw [jI_toInt (by omega) (by omega), jI_toInt (by omega) (by omega)]) ?_
          refine EV.l2i (pc := 123) dX5_find_123 ?_
          refine EV.topi (y := iI ((64 * ((s_nm s k (i + 1 + 1) : Int) - (s_nm s k i : Int))) / ((s_nm s k i : Int) + (s_nm s k (i + 1) : Int) + (s_nm s k (i + 1 + 1) : Int)))) (jI_i _) ?_
          refine EV.iadd (pc := 124) dX5_find_124 ?_
          refine EV.topi (y := iI (pkP (s_nm s k) (i + 1))) (by rw [iI_add]; rfl) ?_
          refine EV.iast (pc := 125) dX5_find_125 (by decide) hw.h53 (vp_in_nI (show (pkN (s_nm s k) t.toInt i).length < 20 by omega) (by omega)) ?_
          have ep := pkN_y (f := s_nm s k) (t := t.toInt) (n := i) ⟨by show s_nm s k i < _; omega, by omega, by omega⟩
          refine EV.abs (Pr := MW G ad s (M_pp (M_pm z (nI (pkN (s_nm s k) t.toInt i).length)) (plA (pkN (s_nm s k) t.toInt (i + 1)) (m_pp z))) hm) (by
      have q := hw.set_pp (pkN (s_nm s k) t.toInt i).length (iI (pkP (s_nm s k) (i + 1)))
      rw [nI_clamp (by omega)]
      rw [ep, ← plA_push]
      exact q) (fun h hw => ?_)
          refine EV.aload_n (pc := 126) dX5_find_126 rfl ?_
          refine EV.dup (pc := 127) dX5_find_127 rfl ?_
          refine EV.getf (pc := 128) dX5_find_128 fgX5_162 (by decide) hw.h34 rfl ?_
          refine EV.topi (y := nI (pkN (s_nm s k) t.toInt i).length) rfl ?_
          refine EV.iconst (pc := 131) (v := 1) dX5_find_131 (by decide) ?_
          refine EV.iadd (pc := 132) dX5_find_132 ?_
          refine EV.topi (y := nI (pkN (s_nm s k) t.toInt (i + 1)).length) (by rw [ep, List.length_append, nI_p1]; rfl) ?_
          refine EV.putf (pc := 133) dX5_find_133 fpX5_162 (by decide) hw.h34 rfl rfl (Nat.le_of_ble_eq_true rfl) ?_
          refine EV.abs (Pr := MW G ad s (zP z (pkN (s_nm s k) t.toInt (i + 1))) hm) (hw.set_pm _) (fun h hw => ?_)
          refine EV.iinc (pc := 136) dX5_find_136 (by decide) rfl (by first | exact nI_inc _ | rfl) (by dsimp only [lst1, lk] <;> rfl) ?_
          refine EV.goto (pc := 139) (tgt := 8) dX5_find_139 (by decide) ?_
          first
          | exact ih (i + 1) h _ _ _ (by omega) hw
          | (have en : pkN (s_nm s k) t.toInt (i + 1) = pkN (s_nm s k) t.toInt i := pkN_n (fun q => by have q1 : s_nm s k i < s_nm s k (i + 1) := q.1; have q2 : s_nm s k (i + 1 + 1) ≤ s_nm s k (i + 1) := q.2.1; have q3 : t.toInt ≤ s_nm s k (i + 1) := q.2.2; omega); exact ih (i + 1) h _ _ _ (by omega) (by rw [en]; exact hw))

set_option maxHeartbeats 4000000 in
set_option maxRecDepth 100000 in
theorem n_find {G : eG} {ad : Nat → Nat} {h : Nat → va_E}  {s : St} {z : Zm} {hm : Nat → va_E} (hw : MW G ad s z hm h) (k : Nat) (t : Int64) (hI : Inv s) (hk4 : k < 4) : MC G M_X5_find cX5_find ad 54 [.ref (ad 34), .int (nI k), .long t] h (fun v h' => v = none ∧ MW G ad s (zP z (pks s k t.toInt)) hm h') := by
  refine MC.of (by decide +kernel) (Nat.le_of_ble_eq_true rfl) (by dsimp only [linit, Nat.reduceSub, List.reduceReplicate] <;> rfl) ?_
  refine EV.aload_n (pc := 0) dX5_find_0 rfl ?_
  refine EV.iconst (pc := 1) (v := 0) dX5_find_1 (by decide) ?_
  refine EV.putf (pc := 2) dX5_find_2 fpX5_162 (by decide) hw.h34 rfl rfl (Nat.le_of_ble_eq_true rfl) ?_
  refine EV.abs (Pr := MW G ad s (zP z []) hm) (by
      have q := hw.set_pm 0
      unfold zP
      rw [plA_nil]
      exact q) (fun h hw => ?_)
  refine EV.iconst (pc := 5) (v := 1) dX5_find_5 (by decide) ?_
  refine EV.istore (pc := 6) dX5_find_6 (by decide) (by dsimp only [lst1, lk] <;> rfl) ?_
  exact l_nfind k t hI hk4 (s_co s k - 2) 0 h _ _ _ (by omega) hw

set_option maxHeartbeats 4000000 in
set_option maxRecDepth 100000 in
theorem q_peaks {G : eG} {ad : Nat → Nat} {h : Nat → va_E} {s : St} {z : Zm} {hm : Nat → va_E} (hw : MW G ad s z hm h) (hI : Inv s) (c : Int32) (t : Int64)  : MC G M_X5_peaks cX5_peaks ad 54 [.ref (ad 34), .int c, .long t] h (PM G ad hm (.int (f_peaks s c t)) s) := by
  have hcn : s_cn s ≤ 4 := hI.2.2.1
  by_cases hp : 0 ≤ c.toInt ∧ c.toInt < s_cn s
  · obtain ⟨k, rfl, ek, lk⟩ := i_nat hp.1
    have hk : k < s_cn s := by omega
    have hk4 : k < 4 := by omega
    refine MC.of (by decide +kernel) (Nat.le_of_ble_eq_true rfl) (by dsimp only [linit, Nat.reduceSub, List.reduceReplicate] <;> rfl) ?_
    refine EV.aload_n (pc := 0) dX5_peaks_0 rfl ?_
    refine EV.iload_n (pc := 1) dX5_peaks_1 rfl ?_
    refine EV.callVR1 (pc := 2) (M' := M_X5_isComb) dX5_peaks_2 lkX5_117 okV_X5_isComb (n_isComb _ hw hcn) (by decide) rfl rfl (Nat.le_of_ble_eq_true rfl) (by decide) hw.h34 ?_
    refine EV.if_ne (pc := 5) (tgt := 11) dX5_peaks_5 (by decide) (fun _ => ?_) (fun q => absurd q (fun q => b2i_F q hp))
    refine EV.lload_n (pc := 11) dX5_peaks_11 rfl ?_
    refine EV.lconst (pc := 12) (v := 1) dX5_peaks_12 (by decide) ?_
    refine EV.lcmp_ge (pc := 13) (tgt := 20) dX5_peaks_13 dX5_peaks_14 (by decide) (fun c13 => ?_) (fun c13 => ?_)
    · try simp only [Int32.lt_iff_toInt_lt, Int32.le_iff_toInt_le, ← Int32.toInt_inj, Int64.lt_iff_toInt_lt, Int64.le_iff_toInt_le, ← Int64.toInt_inj, Int32.toInt_toInt64, i_l0, i_l1, i_l2, i_l5, i_l19, i_m1, j_l0, j_l1, j_l5, i_l3, i_l4, i_l6, i_l7, i_l8, i_l9, i_l12, i_l16, i_l20, i_l60, i_l64, i_l100, i_l200, i_l304, i_l2000, i_l10000, i_l100000, i_l1000000, i_n1000000, i_n19, i_n101, j_l2, j_l3, j_l19, j_l304, j_l2000, j_l10000, j_l100000, j_l1000000, j_l60, j_l100, j_n1000000, j_n19] at c13
      refine EV.aload_n (pc := 20) dX5_peaks_20 rfl ?_
      refine EV.iload_n (pc := 21) dX5_peaks_21 rfl ?_
      refine EV.lload_n (pc := 22) dX5_peaks_22 rfl ?_
      refine EV.callVP0 (pc := 23) (M' := M_X5_find) dX5_peaks_23 lkX5_167 okV_X5_find (n_find hw k t hI hk4) (by decide) rfl rfl (Nat.le_of_ble_eq_true rfl) (by decide) hw.h34 (fun h hw => ?_)
      refine EV.aload_n (pc := 26) dX5_peaks_26 rfl ?_
      refine EV.getf (pc := 27) dX5_peaks_27 fgX5_162 (by decide) hw.h34 rfl ?_
      refine EV.iret (pc := 30) dX5_peaks_30 trivial ?_
      exact PM.mk (by unfold f_peaks; rw [if_pos hp, if_pos (by omega), nI_tn (by omega)]; rfl) rfl hw
    · try simp only [Int32.lt_iff_toInt_lt, Int32.le_iff_toInt_le, ← Int32.toInt_inj, Int64.lt_iff_toInt_lt, Int64.le_iff_toInt_le, ← Int64.toInt_inj, Int32.toInt_toInt64, i_l0, i_l1, i_l2, i_l5, i_l19, i_m1, j_l0, j_l1, j_l5, i_l3, i_l4, i_l6, i_l7, i_l8, i_l9, i_l12, i_l16, i_l20, i_l60, i_l64, i_l100, i_l200, i_l304, i_l2000, i_l10000, i_l100000, i_l1000000, i_n1000000, i_n19, i_n101, j_l2, j_l3, j_l19, j_l304, j_l2000, j_l10000, j_l100000, j_l1000000, j_l60, j_l100, j_n1000000, j_n19] at c13
      refine EV.bipush (pc := 17) (v := -102) dX5_peaks_17 (by decide) ?_
      refine EV.iret (pc := 19) dX5_peaks_19 trivial ?_
      exact PM.mk (by unfold f_peaks; rw [if_pos hp, if_neg (by omega)]) rfl hw
  · refine MC.of (by decide +kernel) (Nat.le_of_ble_eq_true rfl) (by dsimp only [linit, Nat.reduceSub, List.reduceReplicate] <;> rfl) ?_
    refine EV.aload_n (pc := 0) dX5_peaks_0 rfl ?_
    refine EV.iload_n (pc := 1) dX5_peaks_1 rfl ?_
    refine EV.callVR1 (pc := 2) (M' := M_X5_isComb) dX5_peaks_2 lkX5_117 okV_X5_isComb (n_isComb _ hw hcn) (by decide) rfl rfl (Nat.le_of_ble_eq_true rfl) (by decide) hw.h34 ?_
    refine EV.if_ne (pc := 5) (tgt := 11) dX5_peaks_5 (by decide) (fun q => absurd (b2i_0 hp).symm q) (fun _ => ?_)
    refine EV.bipush (pc := 8) (v := -101) dX5_peaks_8 (by decide) ?_
    refine EV.iret (pc := 10) dX5_peaks_10 trivial ?_
    exact PM.mk (by unfold f_peaks; rw [if_neg hp]) rfl hw

set_option maxHeartbeats 4000000 in
set_option maxRecDepth 100000 in
theorem q_peak {G : eG} {ad : Nat → Nat} {h : Nat → va_E} {s : St} {z : Zm} {hm : Nat → va_E} (hw : MW G ad s z hm h) (hI : Inv s) (c : Int32) (t : Int64) (j : Int32)  : MC G M_X5_peak cX5_peak ad 54 [.ref (ad 34), .int c, .long t, .int j] h (PM G ad hm (.int (f_peak s c t j)) s) := by
  have hcn : s_cn s ≤ 4 := hI.2.2.1
  by_cases hp : 0 ≤ c.toInt ∧ c.toInt < s_cn s
  · obtain ⟨k, rfl, ek, lk⟩ := i_nat hp.1
    have hk : k < s_cn s := by omega
    have hk4 : k < 4 := by omega
    have hco : s_co s k ≤ 20 := (hI.2.2.2.1 k hk4).2.2.2
    have hl := pks_len (t := t.toInt) hco
    have e1 : (nI (pks s k t.toInt).length - 1).toInt = ((pks s k t.toInt).length : Int) - 1 := by rw [nI_iI, show (1 : Int32) = iI 1 from iI_lit 1, iI_sub, iI_toInt (by omega) (by omega)]
    refine MC.of (by decide +kernel) (Nat.le_of_ble_eq_true rfl) (by dsimp only [linit, Nat.reduceSub, List.reduceReplicate] <;> rfl) ?_
    refine EV.aload_n (pc := 0) dX5_peak_0 rfl ?_
    refine EV.iload_n (pc := 1) dX5_peak_1 rfl ?_
    refine EV.callVR1 (pc := 2) (M' := M_X5_isComb) dX5_peak_2 lkX5_117 okV_X5_isComb (n_isComb _ hw hcn) (by decide) rfl rfl (Nat.le_of_ble_eq_true rfl) (by decide) hw.h34 ?_
    refine EV.if_ne (pc := 5) (tgt := 11) dX5_peak_5 (by decide) (fun _ => ?_) (fun q => absurd q (fun q => b2i_F q hp))
    refine EV.lload_n (pc := 11) dX5_peak_11 rfl ?_
    refine EV.lconst (pc := 12) (v := 1) dX5_peak_12 (by decide) ?_
    refine EV.lcmp_ge (pc := 13) (tgt := 20) dX5_peak_13 dX5_peak_14 (by decide) (fun c13 => ?_) (fun c13 => ?_)
    · try simp only [Int32.lt_iff_toInt_lt, Int32.le_iff_toInt_le, ← Int32.toInt_inj, Int64.lt_iff_toInt_lt, Int64.le_iff_toInt_le, ← Int64.toInt_inj, Int32.toInt_toInt64, i_l0, i_l1, i_l2, i_l5, i_l19, i_m1, j_l0, j_l1, j_l5, i_l3, i_l4, i_l6, i_l7, i_l8, i_l9, i_l12, i_l16, i_l20, i_l60, i_l64, i_l100, i_l200, i_l304, i_l2000, i_l10000, i_l100000, i_l1000000, i_n1000000, i_n19, i_n101, j_l2, j_l3, j_l19, j_l304, j_l2000, j_l10000, j_l100000, j_l1000000, j_l60, j_l100, j_n1000000, j_n19, e1] at c13
      refine EV.aload_n (pc := 20) dX5_peak_20 rfl ?_
      refine EV.iload_n (pc := 21) dX5_peak_21 rfl ?_
      refine EV.lload_n (pc := 22) dX5_peak_22 rfl ?_
      refine EV.callVP0 (pc := 23) (M' := M_X5_find) dX5_peak_23 lkX5_167 okV_X5_find (n_find hw k t hI hk4) (by decide) rfl rfl (Nat.le_of_ble_eq_true rfl) (by decide) hw.h34 (fun h hw => ?_)
      refine EV.iload (pc := 26) dX5_peak_26 rfl ?_
      refine EV.i2l (pc := 28) dX5_peak_28 ?_
      refine EV.lconst (pc := 29) (v := 0) dX5_peak_29 (by decide) ?_
      refine EV.aload_n (pc := 30) dX5_peak_30 rfl ?_
      refine EV.getf (pc := 31) dX5_peak_31 fgX5_162 (by decide) hw.h34 rfl ?_
      refine EV.topi (y := nI (pks s k t.toInt).length) rfl ?_
      refine EV.iconst (pc := 34) (v := 1) dX5_peak_34 (by decide) ?_
      refine EV.isub (pc := 35) dX5_peak_35 ?_
      refine EV.i2l (pc := 36) dX5_peak_36 ?_
      refine EV.callSR1 (pc := 37) (M' := M_X5_in) dX5_peak_37 lkX5_75 okS_X5_in (n_in _ _ _) (by decide) rfl rfl (Nat.le_of_ble_eq_true rfl) ?_
      refine EV.if_eq (pc := 40) (tgt := 53) dX5_peak_40 (by decide) (fun c40 => ?_) (fun c40 => ?_)
      · replace c40 := b2i_F c40
        try simp only [Int32.lt_iff_toInt_lt, Int32.le_iff_toInt_le, ← Int32.toInt_inj, Int64.lt_iff_toInt_lt, Int64.le_iff_toInt_le, ← Int64.toInt_inj, Int32.toInt_toInt64, i_l0, i_l1, i_l2, i_l5, i_l19, i_m1, j_l0, j_l1, j_l5, i_l3, i_l4, i_l6, i_l7, i_l8, i_l9, i_l12, i_l16, i_l20, i_l60, i_l64, i_l100, i_l200, i_l304, i_l2000, i_l10000, i_l100000, i_l1000000, i_n1000000, i_n19, i_n101, j_l2, j_l3, j_l19, j_l304, j_l2000, j_l10000, j_l100000, j_l1000000, j_l60, j_l100, j_n1000000, j_n19, e1] at c40
        refine EV.iconst (pc := 53) (v := -1) dX5_peak_53 (by decide) ?_
        refine EV.iret (pc := 54) dX5_peak_54 trivial ?_
        exact PM.mk (by unfold f_peak; rw [if_pos hp, if_pos (by omega), nI_tn (by omega)]; first | (rw [if_pos (by omega)]) | (rw [if_neg (by omega)])) rfl hw
      · replace c40 := b2i_T c40
        try simp only [Int32.lt_iff_toInt_lt, Int32.le_iff_toInt_le, ← Int32.toInt_inj, Int64.lt_iff_toInt_lt, Int64.le_iff_toInt_le, ← Int64.toInt_inj, Int32.toInt_toInt64, i_l0, i_l1, i_l2, i_l5, i_l19, i_m1, j_l0, j_l1, j_l5, i_l3, i_l4, i_l6, i_l7, i_l8, i_l9, i_l12, i_l16, i_l20, i_l60, i_l64, i_l100, i_l200, i_l304, i_l2000, i_l10000, i_l100000, i_l1000000, i_n1000000, i_n19, i_n101, j_l2, j_l3, j_l19, j_l304, j_l2000, j_l10000, j_l100000, j_l1000000, j_l60, j_l100, j_n1000000, j_n19, e1] at c40
        refine EV.aload_n (pc := 43) dX5_peak_43 rfl ?_
        refine EV.getf (pc := 44) dX5_peak_44 fgX5_66 (by decide) hw.h34 rfl ?_
        refine EV.iload (pc := 47) dX5_peak_47 rfl ?_
        refine EV.iald (pc := 49) dX5_peak_49 (by decide) hw.h53 (by rw [vp_in_iff]; omega) ?_
        refine EV.topi (y := iI ((pks s k t.toInt).getD j.toInt.toNat 0)) (by show plA _ _ j.toInt.toNat = _; unfold plA; rw [if_pos (by omega)]) ?_
        refine EV.goto (pc := 50) (tgt := 54) dX5_peak_50 (by decide) ?_
        refine EV.iret (pc := 54) dX5_peak_54 trivial ?_
        exact PM.mk (by unfold f_peak; rw [if_pos hp, if_pos (by omega), nI_tn (by omega)]; first | (rw [if_pos (by omega)]) | (rw [if_neg (by omega)])) rfl hw
    · try simp only [Int32.lt_iff_toInt_lt, Int32.le_iff_toInt_le, ← Int32.toInt_inj, Int64.lt_iff_toInt_lt, Int64.le_iff_toInt_le, ← Int64.toInt_inj, Int32.toInt_toInt64, i_l0, i_l1, i_l2, i_l5, i_l19, i_m1, j_l0, j_l1, j_l5, i_l3, i_l4, i_l6, i_l7, i_l8, i_l9, i_l12, i_l16, i_l20, i_l60, i_l64, i_l100, i_l200, i_l304, i_l2000, i_l10000, i_l100000, i_l1000000, i_n1000000, i_n19, i_n101, j_l2, j_l3, j_l19, j_l304, j_l2000, j_l10000, j_l100000, j_l1000000, j_l60, j_l100, j_n1000000, j_n19, e1] at c13
      refine EV.bipush (pc := 17) (v := -102) dX5_peak_17 (by decide) ?_
      refine EV.iret (pc := 19) dX5_peak_19 trivial ?_
      exact PM.mk (by unfold f_peak; rw [if_pos hp, if_neg (by omega)]) rfl hw
  · refine MC.of (by decide +kernel) (Nat.le_of_ble_eq_true rfl) (by dsimp only [linit, Nat.reduceSub, List.reduceReplicate] <;> rfl) ?_
    refine EV.aload_n (pc := 0) dX5_peak_0 rfl ?_
    refine EV.iload_n (pc := 1) dX5_peak_1 rfl ?_
    refine EV.callVR1 (pc := 2) (M' := M_X5_isComb) dX5_peak_2 lkX5_117 okV_X5_isComb (n_isComb _ hw hcn) (by decide) rfl rfl (Nat.le_of_ble_eq_true rfl) (by decide) hw.h34 ?_
    refine EV.if_ne (pc := 5) (tgt := 11) dX5_peak_5 (by decide) (fun q => absurd (b2i_0 hp).symm q) (fun _ => ?_)
    refine EV.bipush (pc := 8) (v := -101) dX5_peak_8 (by decide) ?_
    refine EV.iret (pc := 10) dX5_peak_10 trivial ?_
    exact PM.mk (by unfold f_peak; rw [if_neg hp]) rfl hw
