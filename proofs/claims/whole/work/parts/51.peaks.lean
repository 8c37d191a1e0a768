/-- the places of a row's peaks, columns 1 to n -/
def isPk (f : Nat → Nat) (t : Int) (x : Nat) : Prop := f (x - 1) < f x ∧ f (x + 1) ≤ f x ∧ t ≤ f x
noncomputable def pkN (f : Nat → Nat) (t : Int) : Nat → List Int
  | 0 => []
  | n + 1 => @ite _ (isPk f t (n + 1)) (Classical.propDecidable _) (pkN f t n ++ [pkP f (n + 1)]) (pkN f t n)
theorem pkN_y {f : Nat → Nat} {t : Int} {n : Nat} (h : isPk f t (n + 1)) : pkN f t (n + 1) = pkN f t n ++ [pkP f (n + 1)] := by
  simp only [pkN]; exact if_pos h
theorem pkN_n {f : Nat → Nat} {t : Int} {n : Nat} (h : ¬ isPk f t (n + 1)) : pkN f t (n + 1) = pkN f t n := by
  simp only [pkN]; exact if_neg h
theorem pkN_len (f : Nat → Nat) (t : Int) : ∀ n, (pkN f t n).length ≤ n
  | 0 => Nat.le_refl 0
  | n + 1 => by
    have h := pkN_len f t n
    by_cases c : isPk f t (n + 1)
    · rw [pkN_y c, List.length_append]; simp; omega
    · rw [pkN_n c]; omega
noncomputable def pks (s : St) (c : Nat) (t : Int) : List Int := pkN (s_nm s c) t (s_co s c - 2)
noncomputable def plA (l : List Int) (old : Nat → Int32) : Nat → Int32 := fun i => if i < l.length then iI (l.getD i 0) else old i
theorem plA_nil (f : Nat → Int32) : plA [] f = f := by funext i; simp [plA]
theorem plA_push (l : List Int) (f : Nat → Int32) (v : Int) : upd (plA l f) l.length (iI v) = plA (l ++ [v]) f := by
  funext i
  simp only [upd, plA, List.length_append, List.length_singleton]
  by_cases e : i = l.length
  · subst e
    rw [if_pos rfl, if_pos (by omega)]
    simp
  · rw [if_neg e]
    by_cases e2 : i < l.length
    · rw [if_pos e2, if_pos (by omega)]
      simp [List.getD_eq_getElem?_getD, List.getElem?_append_left e2]
    · rw [if_neg e2, if_neg (by omega)]
noncomputable def f_peaks (s : St) (c : Int32) (t : Int64) : Int32 := if 0 ≤ c.toInt ∧ c.toInt < s_cn s then (if 1 ≤ t.toInt then nI (pks s c.toInt.toNat t.toInt).length else -102) else -101
noncomputable def f_peak (s : St) (c : Int32) (t : Int64) (k : Int32) : Int32 := if 0 ≤ c.toInt ∧ c.toInt < s_cn s then (if 1 ≤ t.toInt then (if 0 ≤ k.toInt ∧ k.toInt < (pks s c.toInt.toNat t.toInt).length then iI ((pks s c.toInt.toNat t.toInt).getD k.toInt.toNat 0) else -1) else -102) else -101

set_option maxHeartbeats 4000000 in
set_option maxRecDepth 100000 in
theorem l_find {G : eG} {ad : Nat → Nat} {s : St} {z : Zc} {hm : Nat → va_E} (k : Nat) (t : Int64) (hI : Inv s) (hk4 : k < 4) : ∀ (n i : Nat) (h : Nat → va_E), i + n = s_co s k - 2 → CW G ad s (C_pp z (plA (pkN (s_nm s k) t.toInt i) (c_pp z))) hm h → EV G M_X4_findPlaces cX4_findPlaces none ad 54 (fun v h' => v = some (.int (nI (pks s k t.toInt).length)) ∧ CW G ad s (C_pp z (plA (pks s k t.toInt) (c_pp z))) hm h') 6 [some (.ref (ad 0)), some (.ref (ad (22 + 3 * k))), some (.long t), none, some (.int (nI (pkN (s_nm s k) t.toInt i).length)), some (.int (nI (i + 1)))] [] h := by
  have hco : s_co s k ≤ 20 := (hI.2.2.2.1 k hk4).2.2.2
  have hnb := hI.2.2.2.2.1 k hk4
  have e1 : (nI (s_co s k) - 1).toInt = (s_co s k : Int) - 1 := by rw [nI_iI, show (1 : Int32) = iI 1 from iI_lit 1, iI_sub, iI_toInt (by omega) (by omega)]
  intro n
  induction n with
  | zero =>
    intro i h hi hw
    have ei : i = s_co s k - 2 := by omega
    subst ei
    refine EV.iload (pc := 6) dX4_findPlaces_6 rfl ?_
    refine EV.aload_n (pc := 8) dX4_findPlaces_8 rfl ?_
    refine EV.getf (pc := 9) dX4_findPlaces_9 fgX4_141 (show 22 + 3 * k < 54 by omega) (hw.kb' hk4) rfl ?_
    refine EV.iconst (pc := 12) (v := 1) dX4_findPlaces_12 (by decide) ?_
    refine EV.isub (pc := 13) dX4_findPlaces_13 ?_
    refine EV.icmp_ge (pc := 14) (tgt := 59) dX4_findPlaces_14 (by decide) (fun _ => ?_) (fun q => absurd (by rw [Int32.le_iff_toInt_le, nI_t (by omega), e1]; omega) q)
    refine EV.iload (pc := 59) dX4_findPlaces_59 rfl ?_
    exact EV.iret (pc := 61) dX4_findPlaces_61 trivial ⟨rfl, hw⟩
  | succ n ih =>
    intro i h hi hw
    have hi2 : i < s_co s k - 2 := by omega
    have hl := pkN_len (s_nm s k) t.toInt i
    have el := nI_t (show (pkN (s_nm s k) t.toInt i).length < 2147483648 by omega)
    refine EV.iload (pc := 6) dX4_findPlaces_6 rfl ?_
    refine EV.aload_n (pc := 8) dX4_findPlaces_8 rfl ?_
    refine EV.getf (pc := 9) dX4_findPlaces_9 fgX4_141 (show 22 + 3 * k < 54 by omega) (hw.kb' hk4) rfl ?_
    refine EV.iconst (pc := 12) (v := 1) dX4_findPlaces_12 (by decide) ?_
    refine EV.isub (pc := 13) dX4_findPlaces_13 ?_
    refine EV.icmp_ge (pc := 14) (tgt := 59) dX4_findPlaces_14 (by decide) (fun q => absurd q (by rw [Int32.le_iff_toInt_le, nI_t (by omega), e1]; omega)) (fun _ => ?_)
    refine EV.iload (pc := 17) dX4_findPlaces_17 rfl ?_
    refine EV.aload_n (pc := 19) dX4_findPlaces_19 rfl ?_
    refine EV.getf (pc := 20) dX4_findPlaces_20 fgX4_36 (by decide) hw.h0 rfl ?_
    refine EV.alen (pc := 23) (t0 := 0) dX4_findPlaces_23 rfl (by decide) hw.h7 (v := nI 20) rfl ?_
    refine EV.icmp_ge (pc := 24) (tgt := 59) dX4_findPlaces_24 (by decide) (fun q => absurd q (by rw [Int32.le_iff_toInt_le, el, nI_t (by omega)]; omega)) (fun _ => ?_)
    refine EV.aload_n (pc := 27) dX4_findPlaces_27 rfl ?_
    refine EV.iload (pc := 28) dX4_findPlaces_28 rfl ?_
    refine EV.lload_n (pc := 30) dX4_findPlaces_30 rfl ?_
    refine EV.callVR1 (pc := 31) (M' := M_X0_isPeak) dX4_findPlaces_31 lkX4_291 okV_X0_isPeak (m_isPeak (22 + 3 * k) (23 + 3 * k) (24 + 3 * k) (s_ca s k) (s_cb s k) (s_cr s k) (s_co s k) (s_nm s k) (i + 1) t (by omega) (by omega) hco (hw.kb' hk4) (hw.nm k hk4) (by omega) (by omega) hnb) (by decide) rfl rfl (Nat.le_of_ble_eq_true rfl) (show 22 + 3 * k < 54 by omega) (hw.kb' hk4) ?_
    refine EV.if_eq (pc := 34) (tgt := 53) dX4_findPlaces_34 (by decide) (fun c34 => ?_) (fun c34 => ?_)
    · replace c34 := b2i_F c34
      refine EV.iinc (pc := 53) dX4_findPlaces_53 (by decide) rfl (by first | exact nI_inc _ | rfl) (by dsimp only [lst1, lk] <;> rfl) ?_
      refine EV.goto (pc := 56) (tgt := 6) dX4_findPlaces_56 (by decide) ?_
      first
      | (refine EV.eq rfl ?_ rfl rfl (ih (i + 1) h (by omega) hw); rw [ep, List.length_append]; rfl)
      | (have en := pkN_n (f := s_nm s k) (t := t.toInt) (n := i) (fun q => c34 ⟨q.1, q.2.1, q.2.2⟩); refine EV.eq rfl ?_ rfl rfl (ih (i + 1) h (by omega) (by rw [en]; exact hw)); rw [en])
    · replace c34 := b2i_T c34
      refine EV.aload_n (pc := 37) dX4_findPlaces_37 rfl ?_
      refine EV.getf (pc := 38) dX4_findPlaces_38 fgX4_36 (by decide) hw.h0 rfl ?_
      refine EV.iload (pc := 41) dX4_findPlaces_41 rfl ?_
      refine EV.aload_n (pc := 43) dX4_findPlaces_43 rfl ?_
      refine EV.iload (pc := 44) dX4_findPlaces_44 rfl ?_
      refine EV.callVR1 (pc := 46) (M' := M_X0_placeOfPeak) dX4_findPlaces_46 lkX4_294 okV_X0_placeOfPeak (m_placeOfPeak (22 + 3 * k) (23 + 3 * k) (24 + 3 * k) (s_ca s k) (s_cb s k) (s_cr s k) (s_co s k) (s_nm s k) (i + 1) (by omega) (by omega) hco (hw.kb' hk4) (hw.nm k hk4) (by omega) (by omega) hnb c34.1) (by decide) rfl rfl (Nat.le_of_ble_eq_true rfl) (show 22 + 3 * k < 54 by omega) (hw.kb' hk4) ?_
      refine EV.iast (pc := 49) dX4_findPlaces_49 (by decide) hw.h7 (vp_in_nI (show (pkN (s_nm s k) t.toInt i).length < 20 by omega) (by omega)) ?_
      have ep := pkN_y (f := s_nm s k) (t := t.toInt) (n := i) ⟨c34.1, c34.2.1, c34.2.2⟩
      refine EV.abs (Pr := fun h => CW G ad s (C_pp z (plA (pkN (s_nm s k) t.toInt (i + 1)) (c_pp z))) hm h) (by
      have q := hw.set_pp (pkN (s_nm s k) t.toInt i).length (iI (pkP (s_nm s k) (i + 1)))
      rw [nI_clamp (by omega)]
      show CW G ad s (C_pp z (plA (pkN (s_nm s k) t.toInt (i + 1)) (c_pp z))) hm _
      rw [ep, ← plA_push]
      exact q) (fun h hw => ?_)
      refine EV.iinc (pc := 50) dX4_findPlaces_50 (by decide) rfl (by first | exact nI_inc _ | rfl) (by dsimp only [lst1, lk] <;> rfl) ?_
      refine EV.iinc (pc := 53) dX4_findPlaces_53 (by decide) rfl (by first | exact nI_inc _ | rfl) (by dsimp only [lst1, lk] <;> rfl) ?_
      refine EV.goto (pc := 56) (tgt := 6) dX4_findPlaces_56 (by decide) ?_
      first
      | (refine EV.eq rfl ?_ rfl rfl (ih (i + 1) h (by omega) hw); rw [ep, List.length_append]; rfl)
      | (have en := pkN_n (f := s_nm s k) (t := t.toInt) (n := i) (fun q => c34 ⟨q.1, q.2.1, q.2.2⟩); refine EV.eq rfl ?_ rfl rfl (ih (i + 1) h (by omega) (by rw [en]; exact hw)); rw [en])

set_option maxHeartbeats 4000000 in
set_option maxRecDepth 100000 in
theorem m_find {G : eG} {ad : Nat → Nat} {h : Nat → va_E}  {s : St} {z : Zc} {hm : Nat → va_E} (hw : CW G ad s z hm h) (k : Nat) (t : Int64) (hI : Inv s) (hk4 : k < 4) : MC G M_X4_findPlaces cX4_findPlaces ad 54 [.ref (ad 0), .ref (ad (22 + 3 * k)), .long t] h (fun v h' => v = some (.int (nI (pks s k t.toInt).length)) ∧ CW G ad s (C_pp z (plA (pks s k t.toInt) (c_pp z))) hm h') := by
  refine MC.of (by decide +kernel) (Nat.le_of_ble_eq_true rfl) (by dsimp only [linit, Nat.reduceSub, List.reduceReplicate] <;> rfl) ?_
  refine EV.iconst (pc := 0) (v := 0) dX4_findPlaces_0 (by decide) ?_
  refine EV.istore (pc := 1) dX4_findPlaces_1 (by decide) (by dsimp only [lst1, lk] <;> rfl) ?_
  refine EV.iconst (pc := 3) (v := 1) dX4_findPlaces_3 (by decide) ?_
  refine EV.istore (pc := 4) dX4_findPlaces_4 (by decide) (by dsimp only [lst1, lk] <;> rfl) ?_
  exact l_find k t hI hk4 (s_co s k - 2) 0 h (by omega) (by rw [show (pkN (s_nm s k) t.toInt 0) = [] from rfl, plA_nil]; exact hw)

set_option maxHeartbeats 4000000 in
set_option maxRecDepth 100000 in
theorem p_peaks {G : eG} {ad : Nat → Nat} {h : Nat → va_E} {s : St} {z : Zc} {hm : Nat → va_E} (hw : CW G ad s z hm h) (hI : Inv s) (c : Int32) (t : Int64)  : MC G M_X4_peaks cX4_peaks ad 54 [.ref (ad 0), .int c, .long t] h (PC G ad hm (.int (f_peaks s c t)) s) := by
  have hcn : s_cn s ≤ 4 := hI.2.2.1
  by_cases hp : 0 ≤ c.toInt ∧ c.toInt < s_cn s
  · obtain ⟨k, rfl, ek, lk⟩ := i_nat hp.1
    have hk : k < s_cn s := by omega
    have hk4 : k < 4 := by omega
    skip
    refine MC.of (by decide +kernel) (Nat.le_of_ble_eq_true rfl) (by dsimp only [linit, Nat.reduceSub, List.reduceReplicate] <;> rfl) ?_
    refine EV.aload_n (pc := 0) dX4_peaks_0 rfl ?_
    refine EV.iload_n (pc := 1) dX4_peaks_1 rfl ?_
    refine EV.callVR1 (pc := 2) (M' := M_X4_combOf) dX4_peaks_2 lkX4_122 okV_X4_combOf (m_combOf k hw hk hcn) (by decide) rfl rfl (Nat.le_of_ble_eq_true rfl) (by decide) hw.h0 ?_
    refine EV.astore (pc := 5) dX4_peaks_5 (by decide) (by dsimp only [lst1, lk] <;> rfl) ?_
    refine EV.aload (pc := 7) dX4_peaks_7 rfl ?_
    refine EV.ifnonnull (pc := 9) (tgt := 15) dX4_peaks_9 (by decide) ?_
    refine EV.lload_n (pc := 15) dX4_peaks_15 rfl ?_
    refine EV.lconst (pc := 16) (v := 1) dX4_peaks_16 (by decide) ?_
    refine EV.lcmp_ge (pc := 17) (tgt := 24) dX4_peaks_17 dX4_peaks_18 (by decide) (fun c17 => ?_) (fun c17 => ?_)
    · try simp only [Int32.lt_iff_toInt_lt, Int32.le_iff_toInt_le, ← Int32.toInt_inj, Int64.lt_iff_toInt_lt, Int64.le_iff_toInt_le, ← Int64.toInt_inj, Int32.toInt_toInt64, i_l0, i_l1, i_l2, i_l5, i_l19, i_m1, j_l0, j_l1, j_l5, i_l3, i_l4, i_l6, i_l7, i_l8, i_l9, i_l12, i_l16, i_l20, i_l60, i_l64, i_l100, i_l200, i_l304, i_l2000, i_l10000, i_l100000, i_l1000000, i_n1000000, i_n19, i_n101] at c17
      refine EV.aload_n (pc := 24) dX4_peaks_24 rfl ?_
      refine EV.aload (pc := 25) dX4_peaks_25 rfl ?_
      refine EV.lload_n (pc := 27) dX4_peaks_27 rfl ?_
      refine EV.callVPi (pc := 28) (M' := M_X4_findPlaces) dX4_peaks_28 lkX4_167 okV_X4_findPlaces (m_find hw k t hI hk4) (by decide) rfl rfl (Nat.le_of_ble_eq_true rfl) (by decide) hw.h0 (fun h hw => ?_)
      refine EV.iret (pc := 31) dX4_peaks_31 trivial ?_
      exact PC.mk (by unfold f_peaks; rw [if_pos hp, if_pos (by omega), nI_tn (by omega)]) rfl hw
    · try simp only [Int32.lt_iff_toInt_lt, Int32.le_iff_toInt_le, ← Int32.toInt_inj, Int64.lt_iff_toInt_lt, Int64.le_iff_toInt_le, ← Int64.toInt_inj, Int32.toInt_toInt64, i_l0, i_l1, i_l2, i_l5, i_l19, i_m1, j_l0, j_l1, j_l5, i_l3, i_l4, i_l6, i_l7, i_l8, i_l9, i_l12, i_l16, i_l20, i_l60, i_l64, i_l100, i_l200, i_l304, i_l2000, i_l10000, i_l100000, i_l1000000, i_n1000000, i_n19, i_n101] at c17
      refine EV.bipush (pc := 21) (v := -102) dX4_peaks_21 (by decide) ?_
      refine EV.iret (pc := 23) dX4_peaks_23 trivial ?_
      exact PC.mk (by unfold f_peaks; rw [if_pos hp, if_neg (by omega)]) rfl hw
  · skip
    refine MC.of (by decide +kernel) (Nat.le_of_ble_eq_true rfl) (by dsimp only [linit, Nat.reduceSub, List.reduceReplicate] <;> rfl) ?_
    refine EV.aload_n (pc := 0) dX4_peaks_0 rfl ?_
    refine EV.iload_n (pc := 1) dX4_peaks_1 rfl ?_
    refine EV.callVR1 (pc := 2) (M' := M_X4_combOf) dX4_peaks_2 lkX4_122 okV_X4_combOf (m_combOfN c hw hp hcn) (by decide) rfl rfl (Nat.le_of_ble_eq_true rfl) (by decide) hw.h0 ?_
    refine EV.astoreN (pc := 5) dX4_peaks_5 (by decide) (by dsimp only [lst1, lk] <;> rfl) ?_
    refine EV.aloadN (pc := 7) dX4_peaks_7 rfl ?_
    refine EV.ifnonnullN (pc := 9) dX4_peaks_9 ?_
    refine EV.bipush (pc := 12) (v := -101) dX4_peaks_12 (by decide) ?_
    refine EV.iret (pc := 14) dX4_peaks_14 trivial ?_
    exact PC.mk (by unfold f_peaks; rw [if_neg hp]) rfl hw

theorem pks_len {s : St} {c : Nat} {t : Int} (hco : s_co s c ≤ 20) : (pks s c t).length ≤ 18 := by
  have h := pkN_len (s_nm s c) t (s_co s c - 2)
  unfold pks
  omega

set_option maxHeartbeats 4000000 in
set_option maxRecDepth 100000 in
theorem p_peak {G : eG} {ad : Nat → Nat} {h : Nat → va_E} {s : St} {z : Zc} {hm : Nat → va_E} (hw : CW G ad s z hm h) (hI : Inv s) (c : Int32) (t : Int64) (j : Int32)  : MC G M_X4_peak cX4_peak ad 54 [.ref (ad 0), .int c, .long t, .int j] h (PC G ad hm (.int (f_peak s c t j)) s) := by
  have hcn : s_cn s ≤ 4 := hI.2.2.1
  by_cases hp : 0 ≤ c.toInt ∧ c.toInt < s_cn s
  · obtain ⟨k, rfl, ek, lk⟩ := i_nat hp.1
    have hk : k < s_cn s := by omega
    have hk4 : k < 4 := by omega
    have hco : s_co s k ≤ 20 := (hI.2.2.2.1 k hk4).2.2.2
    have hl := pks_len (t := t.toInt) hco
    have e1 : (nI (pks s k t.toInt).length - 1).toInt = ((pks s k t.toInt).length : Int) - 1 := by rw [nI_iI, show (1 : Int32) = iI 1 from iI_lit 1, iI_sub, iI_toInt (by omega) (by omega)]
    skip
    refine MC.of (by decide +kernel) (Nat.le_of_ble_eq_true rfl) (by dsimp only [linit, Nat.reduceSub, List.reduceReplicate] <;> rfl) ?_
    refine EV.aload_n (pc := 0) dX4_peak_0 rfl ?_
    refine EV.iload_n (pc := 1) dX4_peak_1 rfl ?_
    refine EV.callVR1 (pc := 2) (M' := M_X4_combOf) dX4_peak_2 lkX4_122 okV_X4_combOf (m_combOf k hw hk hcn) (by decide) rfl rfl (Nat.le_of_ble_eq_true rfl) (by decide) hw.h0 ?_
    refine EV.astore (pc := 5) dX4_peak_5 (by decide) (by dsimp only [lst1, lk] <;> rfl) ?_
    refine EV.aload (pc := 7) dX4_peak_7 rfl ?_
    refine EV.ifnonnull (pc := 9) (tgt := 15) dX4_peak_9 (by decide) ?_
    refine EV.lload_n (pc := 15) dX4_peak_15 rfl ?_
    refine EV.lconst (pc := 16) (v := 1) dX4_peak_16 (by decide) ?_
    refine EV.lcmp_ge (pc := 17) (tgt := 24) dX4_peak_17 dX4_peak_18 (by decide) (fun c17 => ?_) (fun c17 => ?_)
    · try simp only [Int32.lt_iff_toInt_lt, Int32.le_iff_toInt_le, ← Int32.toInt_inj, Int64.lt_iff_toInt_lt, Int64.le_iff_toInt_le, ← Int64.toInt_inj, Int32.toInt_toInt64, i_l0, i_l1, i_l2, i_l5, i_l19, i_m1, j_l0, j_l1, j_l5, i_l3, i_l4, i_l6, i_l7, i_l8, i_l9, i_l12, i_l16, i_l20, i_l60, i_l64, i_l100, i_l200, i_l304, i_l2000, i_l10000, i_l100000, i_l1000000, i_n1000000, i_n19, i_n101, e1] at c17
      refine EV.aload_n (pc := 24) dX4_peak_24 rfl ?_
      refine EV.aload (pc := 25) dX4_peak_25 rfl ?_
      refine EV.lload_n (pc := 27) dX4_peak_27 rfl ?_
      refine EV.callVPi (pc := 28) (M' := M_X4_findPlaces) dX4_peak_28 lkX4_167 okV_X4_findPlaces (m_find hw k t hI hk4) (by decide) rfl rfl (Nat.le_of_ble_eq_true rfl) (by decide) hw.h0 (fun h hw => ?_)
      refine EV.istore (pc := 31) dX4_peak_31 (by decide) (by dsimp only [lst1, lk] <;> rfl) ?_
      refine EV.iload (pc := 33) dX4_peak_33 rfl ?_
      refine EV.iconst (pc := 35) (v := 0) dX4_peak_35 (by decide) ?_
      refine EV.iload (pc := 36) dX4_peak_36 rfl ?_
      refine EV.iconst (pc := 38) (v := 1) dX4_peak_38 (by decide) ?_
      refine EV.isub (pc := 39) dX4_peak_39 ?_
      refine EV.callSR1 (pc := 40) (M' := M_X4_within) dX4_peak_40 lkX4_106 okS_X4_within (m_within _ _ _) (by decide) rfl rfl (Nat.le_of_ble_eq_true rfl) ?_
      refine EV.if_eq (pc := 43) (tgt := 56) dX4_peak_43 (by decide) (fun c43 => ?_) (fun c43 => ?_)
      · replace c43 := b2i_F c43
        try simp only [Int32.lt_iff_toInt_lt, Int32.le_iff_toInt_le, ← Int32.toInt_inj, Int64.lt_iff_toInt_lt, Int64.le_iff_toInt_le, ← Int64.toInt_inj, Int32.toInt_toInt64, i_l0, i_l1, i_l2, i_l5, i_l19, i_m1, j_l0, j_l1, j_l5, i_l3, i_l4, i_l6, i_l7, i_l8, i_l9, i_l12, i_l16, i_l20, i_l60, i_l64, i_l100, i_l200, i_l304, i_l2000, i_l10000, i_l100000, i_l1000000, i_n1000000, i_n19, i_n101, e1] at c43
        refine EV.iconst (pc := 56) (v := -1) dX4_peak_56 (by decide) ?_
        refine EV.iret (pc := 57) dX4_peak_57 trivial ?_
        exact PC.mk (by unfold f_peak; rw [if_pos hp, if_pos (by omega), nI_tn (by omega)]; first | (rw [if_pos (by omega)]) | (rw [if_neg (by omega)])) rfl hw
      · replace c43 := b2i_T c43
        try simp only [Int32.lt_iff_toInt_lt, Int32.le_iff_toInt_le, ← Int32.toInt_inj, Int64.lt_iff_toInt_lt, Int64.le_iff_toInt_le, ← Int64.toInt_inj, Int32.toInt_toInt64, i_l0, i_l1, i_l2, i_l5, i_l19, i_m1, j_l0, j_l1, j_l5, i_l3, i_l4, i_l6, i_l7, i_l8, i_l9, i_l12, i_l16, i_l20, i_l60, i_l64, i_l100, i_l200, i_l304, i_l2000, i_l10000, i_l100000, i_l1000000, i_n1000000, i_n19, i_n101, e1] at c43
        refine EV.aload_n (pc := 46) dX4_peak_46 rfl ?_
        refine EV.getf (pc := 47) dX4_peak_47 fgX4_36 (by decide) hw.h0 rfl ?_
        refine EV.iload (pc := 50) dX4_peak_50 rfl ?_
        refine EV.iald (pc := 52) dX4_peak_52 (by decide) hw.h7 (by rw [vp_in_iff]; omega) ?_
        refine EV.topi (y := iI ((pks s k t.toInt).getD j.toInt.toNat 0)) (by show plA _ _ j.toInt.toNat = _; unfold plA; rw [if_pos (by omega)]) ?_
        refine EV.goto (pc := 53) (tgt := 57) dX4_peak_53 (by decide) ?_
        refine EV.iret (pc := 57) dX4_peak_57 trivial ?_
        exact PC.mk (by unfold f_peak; rw [if_pos hp, if_pos (by omega), nI_tn (by omega)]; first | (rw [if_pos (by omega)]) | (rw [if_neg (by omega)])) rfl hw
    · try simp only [Int32.lt_iff_toInt_lt, Int32.le_iff_toInt_le, ← Int32.toInt_inj, Int64.lt_iff_toInt_lt, Int64.le_iff_toInt_le, ← Int64.toInt_inj, Int32.toInt_toInt64, i_l0, i_l1, i_l2, i_l5, i_l19, i_m1, j_l0, j_l1, j_l5, i_l3, i_l4, i_l6, i_l7, i_l8, i_l9, i_l12, i_l16, i_l20, i_l60, i_l64, i_l100, i_l200, i_l304, i_l2000, i_l10000, i_l100000, i_l1000000, i_n1000000, i_n19, i_n101, e1] at c17
      refine EV.bipush (pc := 21) (v := -102) dX4_peak_21 (by decide) ?_
      refine EV.iret (pc := 23) dX4_peak_23 trivial ?_
      exact PC.mk (by unfold f_peak; rw [if_pos hp, if_neg (by omega)]) rfl hw
  · skip
    refine MC.of (by decide +kernel) (Nat.le_of_ble_eq_true rfl) (by dsimp only [linit, Nat.reduceSub, List.reduceReplicate] <;> rfl) ?_
    refine EV.aload_n (pc := 0) dX4_peak_0 rfl ?_
    refine EV.iload_n (pc := 1) dX4_peak_1 rfl ?_
    refine EV.callVR1 (pc := 2) (M' := M_X4_combOf) dX4_peak_2 lkX4_122 okV_X4_combOf (m_combOfN c hw hp hcn) (by decide) rfl rfl (Nat.le_of_ble_eq_true rfl) (by decide) hw.h0 ?_
    refine EV.astoreN (pc := 5) dX4_peak_5 (by decide) (by dsimp only [lst1, lk] <;> rfl) ?_
    refine EV.aloadN (pc := 7) dX4_peak_7 rfl ?_
    refine EV.ifnonnullN (pc := 9) dX4_peak_9 ?_
    refine EV.bipush (pc := 12) (v := -101) dX4_peak_12 (by decide) ?_
    refine EV.iret (pc := 14) dX4_peak_14 trivial ?_
    exact PC.mk (by unfold f_peak; rw [if_neg hp]) rfl hw
