/-- places of peaks: bounds, and that they rise -/
theorem pkP_in {f : Nat → Nat} {t : Int} {x : Nat} (h : isPk f t x) : 64 * (x : Int) - 32 ≤ pkP f x ∧ pkP f x ≤ 64 * (x : Int) + 32 := by
  obtain ⟨h1, h2, h3⟩ := h
  unfold pkP
  generalize f (x - 1) = a at *
  generalize f x = b at *
  generalize f (x + 1) = c at *
  have q1 : (64 * ((c : Int) - a)) / ((a : Int) + b + c) ≤ 32 := Int.ediv_le_of_le_mul (by omega) (by omega)
  have q2 : -32 ≤ (64 * ((c : Int) - a)) / ((a : Int) + b + c) := Int.le_ediv_of_mul_le (by omega) (by omega)
  omega
theorem pkN_all (f : Nat → Nat) (t : Int) : ∀ n, ∀ v ∈ pkN f t n, ∃ x : Nat, 1 ≤ x ∧ x ≤ n ∧ isPk f t x ∧ v = pkP f x
  | 0 => fun v hv => by simp [pkN] at hv
  | n + 1 => fun v hv => by
    by_cases c : isPk f t (n + 1)
    · rw [pkN_y c] at hv
      rcases List.mem_append.mp hv with h | h
      · obtain ⟨x, a, b, d, e⟩ := pkN_all f t n v h
        exact ⟨x, a, by omega, d, e⟩
      · rw [List.mem_singleton] at h
        exact ⟨n + 1, by omega, by omega, c, h⟩
    · rw [pkN_n c] at hv
      obtain ⟨x, a, b, d, e⟩ := pkN_all f t n v hv
      exact ⟨x, a, by omega, d, e⟩
theorem pkN_pw (f : Nat → Nat) (t : Int) : ∀ n, (pkN f t n).Pairwise (fun a b => a < b)
  | 0 => List.Pairwise.nil
  | n + 1 => by
    have ih := pkN_pw f t n
    by_cases c : isPk f t (n + 1)
    · rw [pkN_y c, List.pairwise_append]
      refine ⟨ih, List.pairwise_singleton _ _, fun a ha b hb => ?_⟩
      rw [List.mem_singleton] at hb
      obtain ⟨x, a1, a2, a3, a4⟩ := pkN_all f t n a ha
      have q1 := pkP_in a3
      have q2 := pkP_in c
      by_cases e : x = n
      · exfalso
        subst e
        have u1 := a3.2.1
        have u2 := c.1
        rw [Nat.add_sub_cancel] at u2
        omega
      · rw [hb, a4]
        omega
    · rw [pkN_n c]; exact ih
noncomputable def pkG (l : List Int) (i : Nat) : Int := l.getD i 0
theorem pkG_mem {l : List Int} {i : Nat} (h : i < l.length) : pkG l i ∈ l := by
  unfold pkG
  rw [List.getD_eq_getElem?_getD, List.getElem?_eq_getElem h]
  exact List.getElem_mem h
theorem pkG_in {s : St} {c : Nat} {t : Int} (hco : s_co s c ≤ 20) {i : Nat} (h : i < (pks s c t).length) : 0 ≤ pkG (pks s c t) i ∧ pkG (pks s c t) i ≤ 2000 := by
  obtain ⟨x, a1, a2, a3, a4⟩ := pkN_all (s_nm s c) t (s_co s c - 2) _ (pkG_mem h)
  have q := pkP_in a3
  have a5 : pkG (pks s c t) i = pkP (s_nm s c) x := a4
  rw [a5]
  omega
theorem pkG_lt {s : St} {c : Nat} {t : Int} {i j : Nat} (hij : i < j) (h : j < (pks s c t).length) : pkG (pks s c t) i < pkG (pks s c t) j := by
  have q := List.pairwise_iff_getElem.mp (pkN_pw (s_nm s c) t (s_co s c - 2)) i j (by unfold pks at h; omega) h hij
  unfold pkG
  rw [List.getD_eq_getElem?_getD, List.getD_eq_getElem?_getD, List.getElem?_eq_getElem h, List.getElem?_eq_getElem (show i < (pks s c t).length by omega)]
  exact q
/-- whether a wave is near one of the first n lines -/
def nearL (ln : Nat → Int32) (w e : Int) : Nat → Bool
  | 0 => false
  | n + 1 => nearL ln w e n || decide (-e ≤ (ln n).toInt - w ∧ (ln n).toInt - w ≤ e)
theorem nearL_up {ln : Nat → Int32} {w e : Int} {i : Nat} (h : nearL ln w e i = true) : ∀ k, nearL ln w e (i + k) = true
  | 0 => h
  | k + 1 => by
    have := nearL_up h k
    show (nearL ln w e (i + k) || _) = true
    rw [this]; rfl
theorem nearL_at {ln : Nat → Int32} {w e : Int} {i n : Nat} (hi : i < n) (h : -e ≤ (ln i).toInt - w ∧ (ln i).toInt - w ≤ e) : nearL ln w e n = true := by
  have h1 : nearL ln w e (i + 1) = true := by
    show (nearL ln w e i || _) = true
    rw [decide_eq_true h, Bool.or_true]
  have h2 := nearL_up h1 (n - (i + 1))
  rwa [show i + 1 + (n - (i + 1)) = n by omega] at h2
theorem nearL_no {ln : Nat → Int32} {w e : Int} {i : Nat} (h0 : nearL ln w e i = false) (h : ¬ (-e ≤ (ln i).toInt - w ∧ (ln i).toInt - w ≤ e)) : nearL ln w e (i + 1) = false := by
  show (nearL ln w e i || _) = false
  rw [h0, decide_eq_false h]; rfl
/-- how many of the first n places a law fits -/
def fitN (s : St) (P : Nat → Int) (a b e : Int) : Nat → Nat
  | 0 => 0
  | n + 1 => fitN s P a b e n + if nearL (s_ln s) (wv a b (P n)) e (s_lc s) = true then 1 else 0
theorem fitN_le (s : St) (P : Nat → Int) (a b e : Int) : ∀ n, fitN s P a b e n ≤ n
  | 0 => Nat.le_refl 0
  | n + 1 => by
    have h := fitN_le s P a b e n
    simp only [fitN]
    split <;> omega
/-- the best law so far: how many it fits (0: none), a, b -/
abbrev BL : Type := Nat × Int × Int
def ofr (B : BL) (a b : Int) (ft : Nat) : BL := if 2 ≤ ft ∧ (B.1 = 0 ∨ B.1 < ft ∨ (ft = B.1 ∧ (b < B.2.2 ∨ (b = B.2.2 ∧ a < B.2.1)))) then (ft, a, b) else B
def itN (g : Nat → BL → BL) (b : BL) : Nat → BL
  | 0 => b
  | n + 1 => g n (itN g b n)
def tB (p q u v : Int) : Int := 64 * (v - u) / (q - p)
def tA (p q u v : Int) : Int := u - tB p q u v * p / 64
def tryL (s : St) (P : Nat → Int) (m : Nat) (e p q u v : Int) (B : BL) : BL := if (1 ≤ tB p q u v ∧ tB p q u v ≤ 100000) ∧ (-1000000 ≤ tA p q u v ∧ tA p q u v ≤ 1000000) then ofr B (tA p q u v) (tB p q u v) (fitN s P (tA p q u v) (tB p q u v) e m) else B
def vU (s : St) (P : Nat → Int) (m : Nat) (e p q : Int) (u n : Nat) (B : BL) : BL := itN (fun k B => tryL s P m e p q (s_ln s u).toInt (s_ln s (u + 1 + k)).toInt B) B n
def uU (s : St) (P : Nat → Int) (m : Nat) (e p q : Int) (n : Nat) (B : BL) : BL := itN (fun u B => vU s P m e p q u (s_lc s - (u + 1)) B) B n
def jJ (s : St) (P : Nat → Int) (m : Nat) (e : Int) (i n : Nat) (B : BL) : BL := itN (fun k B => uU s P m e (P i) (P (i + 1 + k)) (s_lc s) B) B n
def iJ (s : St) (P : Nat → Int) (m : Nat) (e : Int) (n : Nat) : BL := itN (fun i B => jJ s P m e i (m - (i + 1)) B) (0, 0, 0) n
/-- what a best law is: none, or within bounds -/
def okB (B : BL) (m : Nat) : Prop := B = (0, 0, 0) ∨ (2 ≤ B.1 ∧ B.1 ≤ m ∧ -1000000 ≤ B.2.1 ∧ B.2.1 ≤ 1000000 ∧ 1 ≤ B.2.2 ∧ B.2.2 ≤ 100000)
theorem okB_le {B : BL} {m : Nat} (h : okB B m) : B.1 ≤ m ∧ -1000000 ≤ B.2.1 ∧ B.2.1 ≤ 1000000 ∧ 0 ≤ B.2.2 ∧ B.2.2 ≤ 100000 := by
  rcases h with rfl | h
  · simp
  · omega
theorem okB_try {s : St} {P : Nat → Int} {m : Nat} {e p q u v : Int} {B : BL} (h : okB B m) : okB (tryL s P m e p q u v B) m := by
  unfold tryL
  split
  · rename_i h1
    unfold ofr
    split
    · rename_i h2
      have h3 := fitN_le s P (tA p q u v) (tB p q u v) e m
      right
      exact ⟨h2.1, h3, h1.2.1, h1.2.2, h1.1.1, h1.1.2⟩
    · exact h
  · exact h
theorem okB_it {g : Nat → BL → BL} {m : Nat} (hg : ∀ n B, okB B m → okB (g n B) m) {B : BL} (h : okB B m) : ∀ n, okB (itN g B n) m
  | 0 => h
  | n + 1 => hg n _ (okB_it hg h n)
theorem okB_v {s : St} {P : Nat → Int} {m : Nat} {e p q : Int} {u n : Nat} {B : BL} (h : okB B m) : okB (vU s P m e p q u n B) m := okB_it (fun _ _ h => okB_try h) h n
theorem okB_u {s : St} {P : Nat → Int} {m : Nat} {e p q : Int} {n : Nat} {B : BL} (h : okB B m) : okB (uU s P m e p q n B) m := okB_it (fun _ _ h => okB_v h) h n
theorem okB_j {s : St} {P : Nat → Int} {m : Nat} {e : Int} {i n : Nat} {B : BL} (h : okB B m) : okB (jJ s P m e i n B) m := okB_it (fun _ _ h => okB_u h) h n
theorem okB_i {s : St} {P : Nat → Int} {m : Nat} {e : Int} {n : Nat} : okB (iJ s P m e n) m := okB_it (fun _ _ h => okB_j h) (Or.inl rfl) n
theorem ediv_in {a g M : Int} (h : -M ≤ a ∧ a ≤ M) (hg : 0 < g) : -M ≤ a / g ∧ a / g ≤ M := by
  have h0 : 0 ≤ M := by omega
  have h1 : M * 1 ≤ M * g := Int.mul_le_mul_of_nonneg_left (by omega) h0
  constructor
  · refine Int.le_ediv_of_mul_le hg ?_
    rw [Int.neg_mul]
    omega
  · exact Int.ediv_le_of_le_mul hg (by omega)
theorem mul_abs {a b A B : Int} (h1 : -A ≤ a ∧ a ≤ A) (h2 : 0 ≤ b ∧ b ≤ B) : -(A * B) ≤ a * b ∧ a * b ≤ A * B := by
  have hA : 0 ≤ A := by omega
  have q1 : A * b ≤ A * B := Int.mul_le_mul_of_nonneg_left h2.2 hA
  have q2 : a * b ≤ A * b := Int.mul_le_mul_of_nonneg_right h1.2 h2.1
  have q3 : -A * b ≤ a * b := Int.mul_le_mul_of_nonneg_right h1.1 h2.1
  rw [Int.neg_mul] at q3
  omega
theorem wv_in {a b z : Int} (ha : -1000000 ≤ a ∧ a ≤ 1000000) (hb : 0 ≤ b ∧ b ≤ 100000) (hz : 0 ≤ z ∧ z ≤ 2000) : 0 ≤ b * z ∧ b * z ≤ 200000000 ∧ -1000000 ≤ wv a b z ∧ wv a b z ≤ 10000000 := by
  have h1 : 0 ≤ b * z := Int.mul_nonneg hb.1 hz.1
  have h2 : b * z ≤ 100000 * 2000 := Int.mul_le_mul hb.2 hz.2 hz.1 (by omega)
  unfold wv
  omega
theorem wv_j {a b z : Int} (ha : -1000000 ≤ a ∧ a ≤ 1000000) (hb : 0 ≤ b ∧ b ≤ 100000) (hz : 0 ≤ z ∧ z ≤ 2000) : jI a + jI ((jI b * (iI z).toInt64).toInt / 64) = jI (wv a b z) := by
  have h := wv_in ha hb hz
  rw [iI_l (by omega) (by omega), jI_mul, jI_toInt (by omega) (by omega), jI_add]
  rfl
theorem i_subl {x y : Int32} (hx : -1000000000 ≤ x.toInt ∧ x.toInt ≤ 1000000000) (hy : -1000000000 ≤ y.toInt ∧ y.toInt ≤ 1000000000) : (x - y).toInt64 = jI (x.toInt - y.toInt) := by
  conv => lhs; rw [← iI_of x, ← iI_of y]
  rw [iI_sub, iI_l (by omega) (by omega)]
noncomputable def zB (z : Zc) (B : BL) : Zc := (c_pp z, c_sr z, c_sl z, c_sf z, c_sq z, c_sp z, decide (B.1 ≠ 0), iI B.2.1, iI B.2.2, nI B.1)

set_option maxHeartbeats 4000000 in
set_option maxRecDepth 100000 in
theorem l_near {G : eG} {ad : Nat → Nat} {h : Nat → va_E} {s : St} {z : Zc} {hm : Nat → va_E} (hw : CW G ad s z hm h) (w e : Int) (hlc : s_lc s ≤ 12) (hln : ∀ i, i < s_lc s → 1 ≤ (s_ln s i).toInt ∧ (s_ln s i).toInt ≤ 1000000) (hw1 : -1000000 ≤ w ∧ w ≤ 10000000) (he : 0 ≤ e ∧ e ≤ 10000) : ∀ (n i : Nat), i + n = s_lc s → nearL (s_ln s) w e i = false → EV G M_X4_nearLine cX4_nearLine none ad 54 (IS (some (.int (b2i (nearL (s_ln s) w e (s_lc s))))) h) 3 [some (.ref (ad 0)), some (.long (jI w)), none, some (.int (iI e)), some (.int (nI i))] [] h := by
  intro n
  induction n with
  | zero =>
    intro i hi hn
    have ei : i = s_lc s := by omega
    subst ei
    refine EV.iload (pc := 3) dX4_nearLine_3 rfl ?_
    refine EV.aload_n (pc := 5) dX4_nearLine_5 rfl ?_
    refine EV.getf (pc := 6) dX4_nearLine_6 fgX4_172 (by decide) hw.h0 rfl ?_
    refine EV.icmp_ge (pc := 9) (tgt := 39) dX4_nearLine_9 (by decide) (fun _ => ?_) (fun q => absurd ((nI_leI (by omega) (by omega)).mpr (Nat.le_refl _)) q)
    refine EV.iconst (pc := 39) (v := 0) dX4_nearLine_39 (by decide) ?_
    refine EV.iret (pc := 40) dX4_nearLine_40 (by rfl) ?_
    exact ⟨by rw [hn]; rfl, rfl⟩
  | succ n ih =>
    intro i hi hn
    have hi2 : i < s_lc s := by omega
    have q1 := hln i hi2
    refine EV.iload (pc := 3) dX4_nearLine_3 rfl ?_
    refine EV.aload_n (pc := 5) dX4_nearLine_5 rfl ?_
    refine EV.getf (pc := 6) dX4_nearLine_6 fgX4_172 (by decide) hw.h0 rfl ?_
    refine EV.icmp_ge (pc := 9) (tgt := 39) dX4_nearLine_9 (by decide) (fun q => absurd q (fun z => absurd ((nI_leI (a := s_lc s) (b := i) (by omega) (by omega)).mp z) (by omega))) (fun _ => ?_)
    refine EV.aload_n (pc := 12) dX4_nearLine_12 rfl ?_
    refine EV.getf (pc := 13) dX4_nearLine_13 fgX4_25 (by decide) hw.h0 rfl ?_
    refine EV.iload (pc := 16) dX4_nearLine_16 rfl ?_
    refine EV.iald (pc := 18) dX4_nearLine_18 (by decide) hw.h4 (vp_in_nI (show i < 12 by omega) (by omega)) ?_
    refine EV.topi (y := s_ln s i) (by rw [nI_clamp (by omega)]) ?_
    refine EV.i2l (pc := 19) dX4_nearLine_19 ?_
    refine EV.topl (y := jI (s_ln s i).toInt) (i_l _) ?_
    refine EV.lload_n (pc := 20) dX4_nearLine_20 rfl ?_
    refine EV.lsub (pc := 21) dX4_nearLine_21 ?_
    refine EV.topl (y := jI ((s_ln s i).toInt - w)) (jI_sub _ _) ?_
    refine EV.callSR1 (pc := 22) (M' := M_J9_abs_067f4) dX4_nearLine_22 lkX4_315 okS_J9_abs_067f4 (m_abs _) (by decide) rfl rfl (Nat.le_of_ble_eq_true rfl) ?_
    refine EV.topl (y := jI (if 0 ≤ (s_ln s i).toInt - w then (s_ln s i).toInt - w else -((s_ln s i).toInt - w))) (by rw [jI_toInt (by omega) (by omega)]; split <;> (first | rfl | exact jI_neg _)) ?_
    refine EV.iload_n (pc := 25) dX4_nearLine_25 rfl ?_
    refine EV.i2l (pc := 26) dX4_nearLine_26 ?_
    refine EV.topl (y := jI e) (iI_l (by omega) (by omega)) ?_
    refine EV.lcmp_gt (pc := 27) (tgt := 33) dX4_nearLine_27 dX4_nearLine_28 (by decide) (fun c27 => ?_) (fun c27 => ?_)
    · refine EV.iinc (pc := 33) dX4_nearLine_33 (by decide) rfl (by first | exact nI_inc _ | rfl) (by dsimp only [lst1, lk] <;> rfl) ?_
      refine EV.goto (pc := 36) (tgt := 3) dX4_nearLine_36 (by decide) ?_
      rw [jI_lt (by omega) (by omega) (by split <;> omega) (by split <;> omega)] at c27
      exact ih (i + 1) (by omega) (nearL_no hn (by split at c27 <;> omega))
    · refine EV.iconst (pc := 31) (v := 1) dX4_nearLine_31 (by decide) ?_
      refine EV.iret (pc := 32) dX4_nearLine_32 (by rfl) ?_
      rw [jI_lt (by omega) (by omega) (by split <;> omega) (by split <;> omega)] at c27
      refine ⟨congrArg (fun z => some (Value.int z)) ?_, rfl⟩
      rw [nearL_at hi2 (by split at c27 <;> omega)]
      rfl

set_option maxHeartbeats 4000000 in
set_option maxRecDepth 100000 in
theorem m_near {G : eG} {ad : Nat → Nat} {h : Nat → va_E}  {s : St} {z : Zc} {hm : Nat → va_E} (hw : CW G ad s z hm h) (w e : Int) (hlc : s_lc s ≤ 12) (hln : ∀ i, i < s_lc s → 1 ≤ (s_ln s i).toInt ∧ (s_ln s i).toInt ≤ 1000000) (hw1 : -1000000 ≤ w ∧ w ≤ 10000000) (he : 0 ≤ e ∧ e ≤ 10000) : MC G M_X4_nearLine cX4_nearLine ad 54 [.ref (ad 0), .long (jI w), .int (iI e)] h (IS (some (.int (b2i (nearL (s_ln s) w e (s_lc s))))) h) := by
  refine MC.of (by decide +kernel) (Nat.le_of_ble_eq_true rfl) (by dsimp only [linit, Nat.reduceSub, List.reduceReplicate] <;> rfl) ?_
  refine EV.iconst (pc := 0) (v := 0) dX4_nearLine_0 (by decide) ?_
  refine EV.istore (pc := 1) dX4_nearLine_1 (by decide) (by dsimp only [lst1, lk] <;> rfl) ?_
  exact l_near hw w e hlc hln hw1 he (s_lc s) 0 (by omega) rfl

set_option maxHeartbeats 4000000 in
set_option maxRecDepth 100000 in
theorem l_offer {h : Nat → va_E} {G : eG} {ad : Nat → Nat} {s : St} {z : Zc} {hm : Nat → va_E} (P : Nat → Int) (m : Nat) (e : Int) (hm9 : m ≤ 9) (hlc : s_lc s ≤ 12) (hln : ∀ i, i < s_lc s → 1 ≤ (s_ln s i).toInt ∧ (s_ln s i).toInt ≤ 1000000) (he : 0 ≤ e ∧ e ≤ 10000) (hP : ∀ i, i < m → 0 ≤ P i ∧ P i ≤ 2000) (hpp : ∀ i, i < m → c_pp z i = iI (P i)) (a b : Int) (ha : -1000000 ≤ a ∧ a ≤ 1000000) (hb : 1 ≤ b ∧ b ≤ 100000) (B : BL) (hB : okB B m) (hw : CW G ad s (zB z B) hm h) : ∀ (n i : Nat), i + n = m → EV G M_X4_offer cX4_offer none ad 54 (fun v h' => v = none ∧ CW G ad s (zB z (ofr B a b (fitN s P a b e m))) hm h') 6 [some (.ref (ad 0)), some (.int (iI a)), some (.int (iI b)), some (.int (nI m)), some (.int (iI e)), some (.int (nI (fitN s P a b e i))), some (.int (nI i))] [] h := by
  have qB := okB_le hB
  intro n
  induction n with
  | zero =>
    intro i hi
    have ei : i = m := by omega
    subst ei
    have hf := fitN_le s P a b e i
    have ef := nI_t (show fitN s P a b e i < 2147483648 by omega)
    have eB := nI_t (show B.1 < 2147483648 by omega)
    have ea := iI_toInt (a := a) (by omega) (by omega)
    have eb := iI_toInt (a := b) (by omega) (by omega)
    have eBa := iI_toInt (a := B.2.1) (by omega) (by omega)
    have eBb := iI_toInt (a := B.2.2) (by omega) (by omega)
    refine EV.iload (pc := 6) dX4_offer_6 rfl ?_
    refine EV.iload_n (pc := 8) dX4_offer_8 rfl ?_
    refine EV.icmp_ge (pc := 9) (tgt := 44) dX4_offer_9 (by decide) (fun _ => ?_) (fun q => absurd ((nI_leI (by omega) (by omega)).mpr (Nat.le_refl _)) q)
    refine EV.iload (pc := 44) dX4_offer_44 rfl ?_
    refine EV.iconst (pc := 46) (v := 2) dX4_offer_46 (by decide) ?_
    refine EV.icmp_lt (pc := 47) (tgt := 75) dX4_offer_47 (by decide) (fun c47 => ?_) (fun c47 => ?_)
    · try simp only [Int32.lt_iff_toInt_lt, i_l2, ef, eB, ea, eb, eBa, eBb, decide_eq_false_iff_not, Decidable.not_not, ne_eq] at c47
      refine EV.vret (pc := 75) dX4_offer_75 trivial ?_
      refine ⟨rfl, ?_⟩
      unfold ofr
      first | (rw [if_pos (by omega)]; exact hw) | (rw [if_neg (by omega)]; exact hw)
    · try simp only [Int32.lt_iff_toInt_lt, i_l2, ef, eB, ea, eb, eBa, eBb, decide_eq_false_iff_not, Decidable.not_not, ne_eq] at c47
      refine EV.aload_n (pc := 50) dX4_offer_50 rfl ?_
      refine EV.getf (pc := 51) dX4_offer_51 fgX4_49 (by decide) hw.h0 rfl ?_
      refine EV.iload_n (pc := 54) dX4_offer_54 rfl ?_
      refine EV.iload_n (pc := 55) dX4_offer_55 rfl ?_
      refine EV.iload (pc := 56) dX4_offer_56 rfl ?_
      refine EV.callVR1 (pc := 58) (M' := M_X1_losesTo) dX4_offer_58 lkX4_312 okV_X1_losesTo (m_losesTo 9 (decide (B.1 ≠ 0)) (iI B.2.1) (iI B.2.2) (nI B.1) (iI a) (iI b) (nI (fitN s P a b e i)) (by decide) hw.h9) (by decide) rfl rfl (Nat.le_of_ble_eq_true rfl) (by decide) hw.h9 ?_
      refine EV.if_eq (pc := 61) (tgt := 75) dX4_offer_61 (by decide) (fun c61 => ?_) (fun c61 => ?_)
      · replace c61 := b2i_F c61
        try simp only [Int32.lt_iff_toInt_lt, i_l2, ef, eB, ea, eb, eBa, eBb, decide_eq_false_iff_not, Decidable.not_not, ne_eq] at c61
        refine EV.vret (pc := 75) dX4_offer_75 trivial ?_
        refine ⟨rfl, ?_⟩
        unfold ofr
        first | (rw [if_pos (by omega)]; exact hw) | (rw [if_neg (by omega)]; exact hw)
      · replace c61 := b2i_T c61
        try simp only [Int32.lt_iff_toInt_lt, i_l2, ef, eB, ea, eb, eBa, eBb, decide_eq_false_iff_not, Decidable.not_not, ne_eq] at c61
        refine EV.aload_n (pc := 64) dX4_offer_64 rfl ?_
        refine EV.getf (pc := 65) dX4_offer_65 fgX4_49 (by decide) hw.h0 rfl ?_
        refine EV.iload_n (pc := 68) dX4_offer_68 rfl ?_
        refine EV.iload_n (pc := 69) dX4_offer_69 rfl ?_
        refine EV.iload (pc := 70) dX4_offer_70 rfl ?_
        refine EV.callVR0 (pc := 72) (M' := M_X1_become) dX4_offer_72 lkX4_190 okV_X1_become (m_become 9 _ _ _ _ (iI a) (iI b) (nI (fitN s P a b e i)) (by decide) hw.h9) (by decide) rfl rfl (Nat.le_of_ble_eq_true rfl) (by decide) hw.h9 ?_
        refine EV.abs (Pr := CW G ad s (zB z (fitN s P a b e i, a, b)) hm) (by
      have q := hw.set_h9 true (iI a) (iI b) (nI (fitN s P a b e i))
      have e5 : zB z (fitN s P a b e i, a, b) = C_bf (C_bb (C_ba (C_bi (zB z B) true) (iI a)) (iI b)) (nI (fitN s P a b e i)) := by
        simp only [zB]
        rw [decide_eq_true (show fitN s P a b e i ≠ 0 by omega)]
      rw [e5]
      exact q) (fun h hw => ?_)
        refine EV.vret (pc := 75) dX4_offer_75 trivial ?_
        refine ⟨rfl, ?_⟩
        unfold ofr
        first | (rw [if_pos (by omega)]; exact hw) | (rw [if_neg (by omega)]; exact hw)
  | succ n ih =>
    intro i hi
    have hi2 : i < m := by omega
    have qP := hP i hi2
    have qw := wv_in ha (show 0 ≤ b ∧ b ≤ 100000 by omega) qP
    refine EV.iload (pc := 6) dX4_offer_6 rfl ?_
    refine EV.iload_n (pc := 8) dX4_offer_8 rfl ?_
    refine EV.icmp_ge (pc := 9) (tgt := 44) dX4_offer_9 (by decide) (fun q => absurd q (fun z => absurd ((nI_leI (a := m) (b := i) (by omega) (by omega)).mp z) (by omega))) (fun _ => ?_)
    refine EV.aload_n (pc := 12) dX4_offer_12 rfl ?_
    refine EV.iload_n (pc := 13) dX4_offer_13 rfl ?_
    refine EV.i2l (pc := 14) dX4_offer_14 ?_
    refine EV.topl (y := jI a) (iI_l (by omega) (by omega)) ?_
    refine EV.iload_n (pc := 15) dX4_offer_15 rfl ?_
    refine EV.i2l (pc := 16) dX4_offer_16 ?_
    refine EV.topl (y := jI b) (iI_l (by omega) (by omega)) ?_
    refine EV.aload_n (pc := 17) dX4_offer_17 rfl ?_
    refine EV.getf (pc := 18) dX4_offer_18 fgX4_36 (by decide) hw.h0 rfl ?_
    refine EV.iload (pc := 21) dX4_offer_21 rfl ?_
    refine EV.iald (pc := 23) dX4_offer_23 (by decide) hw.h7 (vp_in_nI (show i < 20 by omega) (by omega)) ?_
    refine EV.topi (y := iI (P i)) (by rw [nI_clamp (by omega)]; exact hpp i hi2) ?_
    refine EV.callSR1 (pc := 24) (M' := M_X4_waveAt) dX4_offer_24 lkX4_198 okS_X4_waveAt (m_waveAt _ _ _) (by decide) rfl rfl (Nat.le_of_ble_eq_true rfl) ?_
    refine EV.topl (y := jI (wv a b (P i))) (wv_j ha (by omega) qP) ?_
    refine EV.iload (pc := 27) dX4_offer_27 rfl ?_
    refine EV.callVR1 (pc := 29) (M' := M_X4_nearLine) dX4_offer_29 lkX4_308 okV_X4_nearLine (m_near hw (wv a b (P i)) e hlc hln (by omega) he) (by decide) rfl rfl (Nat.le_of_ble_eq_true rfl) (by decide) hw.h0 ?_
    refine EV.if_eq (pc := 32) (tgt := 38) dX4_offer_32 (by decide) (fun c32 => ?_) (fun c32 => ?_)
    · replace c32 := b2i_eq c32
      refine EV.iinc (pc := 38) dX4_offer_38 (by decide) rfl (by first | exact nI_inc _ | rfl) (by dsimp only [lst1, lk] <;> rfl) ?_
      refine EV.goto (pc := 41) (tgt := 6) dX4_offer_41 (by decide) ?_
      refine EV.eq rfl ?_ rfl rfl (ih (i + 1) (by omega))
      simp [fitN, c32]
    · replace c32 := b2i_ne c32
      refine EV.iinc (pc := 35) dX4_offer_35 (by decide) rfl (by first | exact nI_inc _ | rfl) (by dsimp only [lst1, lk] <;> rfl) ?_
      refine EV.iinc (pc := 38) dX4_offer_38 (by decide) rfl (by first | exact nI_inc _ | rfl) (by dsimp only [lst1, lk] <;> rfl) ?_
      refine EV.goto (pc := 41) (tgt := 6) dX4_offer_41 (by decide) ?_
      refine EV.eq rfl ?_ rfl rfl (ih (i + 1) (by omega))
      simp [fitN, c32]

set_option maxHeartbeats 4000000 in
set_option maxRecDepth 100000 in
theorem m_offer {G : eG} {ad : Nat → Nat} {h : Nat → va_E}  {s : St} {z : Zc} {hm : Nat → va_E} (P : Nat → Int) (m : Nat) (e : Int) (hm9 : m ≤ 9) (hlc : s_lc s ≤ 12) (hln : ∀ i, i < s_lc s → 1 ≤ (s_ln s i).toInt ∧ (s_ln s i).toInt ≤ 1000000) (he : 0 ≤ e ∧ e ≤ 10000) (hP : ∀ i, i < m → 0 ≤ P i ∧ P i ≤ 2000) (hpp : ∀ i, i < m → c_pp z i = iI (P i)) (a b : Int) (ha : -1000000 ≤ a ∧ a ≤ 1000000) (hb : 1 ≤ b ∧ b ≤ 100000) (B : BL) (hB : okB B m) (hw : CW G ad s (zB z B) hm h) : MC G M_X4_offer cX4_offer ad 54 [.ref (ad 0), .int (iI a), .int (iI b), .int (nI m), .int (iI e)] h (fun v h' => v = none ∧ CW G ad s (zB z (ofr B a b (fitN s P a b e m))) hm h') := by
  refine MC.of (by decide +kernel) (Nat.le_of_ble_eq_true rfl) (by dsimp only [linit, Nat.reduceSub, List.reduceReplicate] <;> rfl) ?_
  refine EV.iconst (pc := 0) (v := 0) dX4_offer_0 (by decide) ?_
  refine EV.istore (pc := 1) dX4_offer_1 (by decide) (by dsimp only [lst1, lk] <;> rfl) ?_
  refine EV.iconst (pc := 3) (v := 0) dX4_offer_3 (by decide) ?_
  refine EV.istore (pc := 4) dX4_offer_4 (by decide) (by dsimp only [lst1, lk] <;> rfl) ?_
  exact l_offer P m e hm9 hlc hln he hP hpp a b ha hb B hB hw m 0 (by omega)

set_option maxHeartbeats 4000000 in
set_option maxRecDepth 100000 in
theorem l_try_v {G : eG} {ad : Nat → Nat} {s : St} {z : Zc} {hm : Nat → va_E} (P : Nat → Int) (m : Nat) (e : Int) (hm9 : m ≤ 9) (hlc : s_lc s ≤ 12) (hln : ∀ i, i < s_lc s → 1 ≤ (s_ln s i).toInt ∧ (s_ln s i).toInt ≤ 1000000) (he : 0 ≤ e ∧ e ≤ 10000) (hP : ∀ i, i < m → 0 ≤ P i ∧ P i ≤ 2000) (hpp : ∀ i, i < m → c_pp z i = iI (P i)) (i j : Nat) (hi : i < m) (hj : j < m) (hpq : P i < P j) (u : Nat) (hu : u < s_lc s) (B : BL) (hB : okB B m) (post : eP) (kx : ∀ (h : Nat → va_E) (w8 w9 w11 : Option Value), CW G ad s (zB z (vU s P m e (P i) (P j) u (s_lc s - (u + 1)) B)) hm h → EV G M_X4_tryPair cX4_tryPair none ad 54 post 158 [some (.ref (ad 0)), some (.int (nI i)), some (.int (nI j)), some (.int (nI m)), some (.int (iI e)), some (.long (jI (P j - P i))), none, some (.int (nI u)), w8, w9, none, w11, none] [] h) : ∀ (n k : Nat) (h : Nat → va_E) (w9 w11 : Option Value), k + n = s_lc s - (u + 1) → CW G ad s (zB z (vU s P m e (P i) (P j) u k B)) hm h → EV G M_X4_tryPair cX4_tryPair none ad 54 post 42 [some (.ref (ad 0)), some (.int (nI i)), some (.int (nI j)), some (.int (nI m)), some (.int (iI e)), some (.long (jI (P j - P i))), none, some (.int (nI u)), some (.int (nI (u + 1 + k))), w9, none, w11, none] [] h := by
  intro n
  induction n with
  | zero =>
    intro k h w9 w11 hk hw
    have ek : k = s_lc s - (u + 1) := by omega
    subst ek
    refine EV.iload (pc := 42) dX4_tryPair_42 rfl ?_
    refine EV.aload_n (pc := 44) dX4_tryPair_44 rfl ?_
    refine EV.getf (pc := 45) dX4_tryPair_45 fgX4_172 (by decide) hw.h0 rfl ?_
    refine EV.icmp_ge (pc := 48) (tgt := 158) dX4_tryPair_48 (by decide) (fun _ => ?_) (fun q => absurd ((nI_leI (a := s_lc s) (b := u + 1 + (s_lc s - (u + 1))) (by omega) (by omega)).mpr (by omega)) q)
    exact kx h _ _ _ hw
  | succ n ih =>
    intro k h w9 w11 hk hw
    have q1 := hln u hu
    have q2 := hln (u + 1 + k) (by omega)
    have q3 := hP i hi
    have q4 := hP j hj
    have q5 := ediv_in (a := 64 * ((s_ln s (u + 1 + k)).toInt - (s_ln s u).toInt)) (g := P j - P i) (M := 64000000) (by omega) (by omega)
    have q6 : -64000000 ≤ tB (P i) (P j) (s_ln s u).toInt (s_ln s (u + 1 + k)).toInt ∧ tB (P i) (P j) (s_ln s u).toInt (s_ln s (u + 1 + k)).toInt ≤ 64000000 := q5
    have q7 := mul_abs q6 q3
    have eb := jI_toInt (a := tB (P i) (P j) (s_ln s u).toInt (s_ln s (u + 1 + k)).toInt) (by omega) (by omega)
    have ea : (jI (tA (P i) (P j) (s_ln s u).toInt (s_ln s (u + 1 + k)).toInt)).toInt = tA (P i) (P j) (s_ln s u).toInt (s_ln s (u + 1 + k)).toInt := jI_toInt (by unfold tA; omega) (by unfold tA; omega)
    refine EV.iload (pc := 42) dX4_tryPair_42 rfl ?_
    refine EV.aload_n (pc := 44) dX4_tryPair_44 rfl ?_
    refine EV.getf (pc := 45) dX4_tryPair_45 fgX4_172 (by decide) hw.h0 rfl ?_
    refine EV.icmp_ge (pc := 48) (tgt := 158) dX4_tryPair_48 (by decide) (fun q => absurd q (fun z => absurd ((nI_leI (a := s_lc s) (b := u + 1 + k) (by omega) (by omega)).mp z) (by omega))) (fun _ => ?_)
    refine EV.ldc2 (pc := 51) dX4_tryPair_51 kcX4_297 ?_
    refine EV.aload_n (pc := 54) dX4_tryPair_54 rfl ?_
    refine EV.getf (pc := 55) dX4_tryPair_55 fgX4_25 (by decide) hw.h0 rfl ?_
    refine EV.iload (pc := 58) dX4_tryPair_58 rfl ?_
    refine EV.iald (pc := 60) dX4_tryPair_60 (by decide) hw.h4 (vp_in_nI (show u + 1 + k < 12 by omega) (by omega)) ?_
    refine EV.topi (y := s_ln s (u + 1 + k)) (by rw [nI_clamp (by omega)]) ?_
    refine EV.aload_n (pc := 61) dX4_tryPair_61 rfl ?_
    refine EV.getf (pc := 62) dX4_tryPair_62 fgX4_25 (by decide) hw.h0 rfl ?_
    refine EV.iload (pc := 65) dX4_tryPair_65 rfl ?_
    refine EV.iald (pc := 67) dX4_tryPair_67 (by decide) hw.h4 (vp_in_nI (show u < 12 by omega) (by omega)) ?_
    refine EV.topi (y := s_ln s u) (by rw [nI_clamp (by omega)]) ?_
    refine EV.isub (pc := 68) dX4_tryPair_68 ?_
    refine EV.i2l (pc := 69) dX4_tryPair_69 ?_
    refine EV.topl (y := jI ((s_ln s (u + 1 + k)).toInt - (s_ln s u).toInt)) (i_subl (by omega) (by omega)) ?_
    refine EV.lmul (pc := 70) dX4_tryPair_70 ?_
    refine EV.topl (y := jI (64 * ((s_ln s (u + 1 + k)).toInt - (s_ln s u).toInt))) (by rw [show (64 : Int64) = jI 64 from jI_lit 64, jI_mul]) ?_
    refine EV.lload (pc := 71) dX4_tryPair_71 rfl ?_
    refine EV.callSR1 (pc := 73) (M' := M_J9_floorDiv_f86c9) dX4_tryPair_73 lkX4_253 okS_J9_floorDiv_f86c9 (m_floorDivJ _ _ (by rw [jI_toInt (by omega) (by omega)]; omega)) (by decide) rfl rfl (Nat.le_of_ble_eq_true rfl) ?_
    refine EV.topl (y := jI (tB (P i) (P j) (s_ln s u).toInt (s_ln s (u + 1 + k)).toInt)) (by rw [jI_toInt (by omega) (by omega), jI_toInt (by omega) (by omega)]; rfl) ?_
    refine EV.lstore (pc := 76) dX4_tryPair_76 (by decide) (by dsimp only [lst2, lno, lk] <;> rfl) ?_
    refine EV.aload_n (pc := 78) dX4_tryPair_78 rfl ?_
    refine EV.getf (pc := 79) dX4_tryPair_79 fgX4_25 (by decide) hw.h0 rfl ?_
    refine EV.iload (pc := 82) dX4_tryPair_82 rfl ?_
    refine EV.iald (pc := 84) dX4_tryPair_84 (by decide) hw.h4 (vp_in_nI (show u < 12 by omega) (by omega)) ?_
    refine EV.topi (y := s_ln s u) (by rw [nI_clamp (by omega)]) ?_
    refine EV.i2l (pc := 85) dX4_tryPair_85 ?_
    refine EV.topl (y := jI (s_ln s u).toInt) (i_l _) ?_
    refine EV.lload (pc := 86) dX4_tryPair_86 rfl ?_
    refine EV.aload_n (pc := 88) dX4_tryPair_88 rfl ?_
    refine EV.getf (pc := 89) dX4_tryPair_89 fgX4_36 (by decide) hw.h0 rfl ?_
    refine EV.iload_n (pc := 92) dX4_tryPair_92 rfl ?_
    refine EV.iald (pc := 93) dX4_tryPair_93 (by decide) hw.h7 (vp_in_nI (show i < 20 by omega) (by omega)) ?_
    refine EV.topi (y := iI (P i)) (by rw [nI_clamp (by omega)]; exact hpp i hi) ?_
    refine EV.i2l (pc := 94) dX4_tryPair_94 ?_
    refine EV.topl (y := jI (P i)) (iI_l (by omega) (by omega)) ?_
    refine EV.lmul (pc := 95) dX4_tryPair_95 ?_
    refine EV.topl (y := jI (tB (P i) (P j) (s_ln s u).toInt (s_ln s (u + 1 + k)).toInt * P i)) (jI_mul _ _) ?_
    refine EV.ldc2 (pc := 96) dX4_tryPair_96 kcX4_297 ?_
    refine EV.callSR1 (pc := 99) (M' := M_J9_floorDiv_f86c9) dX4_tryPair_99 lkX4_253 okS_J9_floorDiv_f86c9 (m_floorDivJ _ _ (by decide +kernel)) (by decide) rfl rfl (Nat.le_of_ble_eq_true rfl) ?_
    refine EV.topl (y := jI (tB (P i) (P j) (s_ln s u).toInt (s_ln s (u + 1 + k)).toInt * P i / 64)) (by rw [jI_toInt (by omega) (by omega)]; rfl) ?_
    refine EV.lsub (pc := 102) dX4_tryPair_102 ?_
    refine EV.topl (y := jI (tA (P i) (P j) (s_ln s u).toInt (s_ln s (u + 1 + k)).toInt)) (jI_sub _ _) ?_
    refine EV.lstore (pc := 103) dX4_tryPair_103 (by decide) (by dsimp only [lst2, lno, lk] <;> rfl) ?_
    refine EV.lload (pc := 105) dX4_tryPair_105 rfl ?_
    refine EV.lconst (pc := 107) (v := 1) dX4_tryPair_107 (by decide) ?_
    refine EV.lcmp_lt (pc := 108) (tgt := 152) dX4_tryPair_108 dX4_tryPair_109 (by decide) (fun c108 => ?_) (fun c108 => ?_)
    · try simp only [Int32.lt_iff_toInt_lt, Int32.le_iff_toInt_le, ← Int32.toInt_inj, Int64.lt_iff_toInt_lt, Int64.le_iff_toInt_le, ← Int64.toInt_inj, Int32.toInt_toInt64, i_l0, i_l1, i_l2, i_l5, i_l19, i_m1, j_l0, j_l1, j_l5, i_l3, i_l4, i_l6, i_l7, i_l8, i_l9, i_l12, i_l16, i_l20, i_l60, i_l64, i_l100, i_l200, i_l304, i_l2000, i_l10000, i_l100000, i_l1000000, i_n1000000, i_n19, i_n101, j_l2, j_l3, j_l19, j_l304, j_l2000, j_l10000, j_l100000, j_l1000000, j_l60, j_l100, j_n1000000, j_n19, eb, ea] at c108
      refine EV.iinc (pc := 152) dX4_tryPair_152 (by decide) rfl (by first | exact nI_inc _ | rfl) (by dsimp only [lst1, lk] <;> rfl) ?_
      refine EV.goto (pc := 155) (tgt := 42) dX4_tryPair_155 (by decide) ?_
      first
      | exact ih (k + 1) h _ _ (by omega) hw
      | (refine ih (k + 1) h _ _ (by omega) ?_; have e5 : vU s P m e (P i) (P j) u (k + 1) B = vU s P m e (P i) (P j) u k B := (by show tryL _ _ _ _ _ _ _ _ _ = _; unfold tryL; rw [if_neg (by omega)]; rfl); rw [e5]; exact hw)
    · try simp only [Int32.lt_iff_toInt_lt, Int32.le_iff_toInt_le, ← Int32.toInt_inj, Int64.lt_iff_toInt_lt, Int64.le_iff_toInt_le, ← Int64.toInt_inj, Int32.toInt_toInt64, i_l0, i_l1, i_l2, i_l5, i_l19, i_m1, j_l0, j_l1, j_l5, i_l3, i_l4, i_l6, i_l7, i_l8, i_l9, i_l12, i_l16, i_l20, i_l60, i_l64, i_l100, i_l200, i_l304, i_l2000, i_l10000, i_l100000, i_l1000000, i_n1000000, i_n19, i_n101, j_l2, j_l3, j_l19, j_l304, j_l2000, j_l10000, j_l100000, j_l1000000, j_l60, j_l100, j_n1000000, j_n19, eb, ea] at c108
      refine EV.lload (pc := 112) dX4_tryPair_112 rfl ?_
      refine EV.ldc2 (pc := 114) dX4_tryPair_114 kcX4_299 ?_
      refine EV.lcmp_gt (pc := 117) (tgt := 152) dX4_tryPair_117 dX4_tryPair_118 (by decide) (fun c117 => ?_) (fun c117 => ?_)
      · try simp only [Int32.lt_iff_toInt_lt, Int32.le_iff_toInt_le, ← Int32.toInt_inj, Int64.lt_iff_toInt_lt, Int64.le_iff_toInt_le, ← Int64.toInt_inj, Int32.toInt_toInt64, i_l0, i_l1, i_l2, i_l5, i_l19, i_m1, j_l0, j_l1, j_l5, i_l3, i_l4, i_l6, i_l7, i_l8, i_l9, i_l12, i_l16, i_l20, i_l60, i_l64, i_l100, i_l200, i_l304, i_l2000, i_l10000, i_l100000, i_l1000000, i_n1000000, i_n19, i_n101, j_l2, j_l3, j_l19, j_l304, j_l2000, j_l10000, j_l100000, j_l1000000, j_l60, j_l100, j_n1000000, j_n19, eb, ea] at c117
        refine EV.iinc (pc := 152) dX4_tryPair_152 (by decide) rfl (by first | exact nI_inc _ | rfl) (by dsimp only [lst1, lk] <;> rfl) ?_
        refine EV.goto (pc := 155) (tgt := 42) dX4_tryPair_155 (by decide) ?_
        first
        | exact ih (k + 1) h _ _ (by omega) hw
        | (refine ih (k + 1) h _ _ (by omega) ?_; have e5 : vU s P m e (P i) (P j) u (k + 1) B = vU s P m e (P i) (P j) u k B := (by show tryL _ _ _ _ _ _ _ _ _ = _; unfold tryL; rw [if_neg (by omega)]; rfl); rw [e5]; exact hw)
      · try simp only [Int32.lt_iff_toInt_lt, Int32.le_iff_toInt_le, ← Int32.toInt_inj, Int64.lt_iff_toInt_lt, Int64.le_iff_toInt_le, ← Int64.toInt_inj, Int32.toInt_toInt64, i_l0, i_l1, i_l2, i_l5, i_l19, i_m1, j_l0, j_l1, j_l5, i_l3, i_l4, i_l6, i_l7, i_l8, i_l9, i_l12, i_l16, i_l20, i_l60, i_l64, i_l100, i_l200, i_l304, i_l2000, i_l10000, i_l100000, i_l1000000, i_n1000000, i_n19, i_n101, j_l2, j_l3, j_l19, j_l304, j_l2000, j_l10000, j_l100000, j_l1000000, j_l60, j_l100, j_n1000000, j_n19, eb, ea] at c117
        refine EV.lload (pc := 121) dX4_tryPair_121 rfl ?_
        refine EV.ldc2 (pc := 123) dX4_tryPair_123 kcX4_301 ?_
        refine EV.lcmp_lt (pc := 126) (tgt := 152) dX4_tryPair_126 dX4_tryPair_127 (by decide) (fun c126 => ?_) (fun c126 => ?_)
        · try simp only [Int32.lt_iff_toInt_lt, Int32.le_iff_toInt_le, ← Int32.toInt_inj, Int64.lt_iff_toInt_lt, Int64.le_iff_toInt_le, ← Int64.toInt_inj, Int32.toInt_toInt64, i_l0, i_l1, i_l2, i_l5, i_l19, i_m1, j_l0, j_l1, j_l5, i_l3, i_l4, i_l6, i_l7, i_l8, i_l9, i_l12, i_l16, i_l20, i_l60, i_l64, i_l100, i_l200, i_l304, i_l2000, i_l10000, i_l100000, i_l1000000, i_n1000000, i_n19, i_n101, j_l2, j_l3, j_l19, j_l304, j_l2000, j_l10000, j_l100000, j_l1000000, j_l60, j_l100, j_n1000000, j_n19, eb, ea] at c126
          refine EV.iinc (pc := 152) dX4_tryPair_152 (by decide) rfl (by first | exact nI_inc _ | rfl) (by dsimp only [lst1, lk] <;> rfl) ?_
          refine EV.goto (pc := 155) (tgt := 42) dX4_tryPair_155 (by decide) ?_
          first
          | exact ih (k + 1) h _ _ (by omega) hw
          | (refine ih (k + 1) h _ _ (by omega) ?_; have e5 : vU s P m e (P i) (P j) u (k + 1) B = vU s P m e (P i) (P j) u k B := (by show tryL _ _ _ _ _ _ _ _ _ = _; unfold tryL; rw [if_neg (by omega)]; rfl); rw [e5]; exact hw)
        · try simp only [Int32.lt_iff_toInt_lt, Int32.le_iff_toInt_le, ← Int32.toInt_inj, Int64.lt_iff_toInt_lt, Int64.le_iff_toInt_le, ← Int64.toInt_inj, Int32.toInt_toInt64, i_l0, i_l1, i_l2, i_l5, i_l19, i_m1, j_l0, j_l1, j_l5, i_l3, i_l4, i_l6, i_l7, i_l8, i_l9, i_l12, i_l16, i_l20, i_l60, i_l64, i_l100, i_l200, i_l304, i_l2000, i_l10000, i_l100000, i_l1000000, i_n1000000, i_n19, i_n101, j_l2, j_l3, j_l19, j_l304, j_l2000, j_l10000, j_l100000, j_l1000000, j_l60, j_l100, j_n1000000, j_n19, eb, ea] at c126
          refine EV.lload (pc := 130) dX4_tryPair_130 rfl ?_
          refine EV.ldc2 (pc := 132) dX4_tryPair_132 kcX4_303 ?_
          refine EV.lcmp_gt (pc := 135) (tgt := 152) dX4_tryPair_135 dX4_tryPair_136 (by decide) (fun c135 => ?_) (fun c135 => ?_)
          · try simp only [Int32.lt_iff_toInt_lt, Int32.le_iff_toInt_le, ← Int32.toInt_inj, Int64.lt_iff_toInt_lt, Int64.le_iff_toInt_le, ← Int64.toInt_inj, Int32.toInt_toInt64, i_l0, i_l1, i_l2, i_l5, i_l19, i_m1, j_l0, j_l1, j_l5, i_l3, i_l4, i_l6, i_l7, i_l8, i_l9, i_l12, i_l16, i_l20, i_l60, i_l64, i_l100, i_l200, i_l304, i_l2000, i_l10000, i_l100000, i_l1000000, i_n1000000, i_n19, i_n101, j_l2, j_l3, j_l19, j_l304, j_l2000, j_l10000, j_l100000, j_l1000000, j_l60, j_l100, j_n1000000, j_n19, eb, ea] at c135
            refine EV.iinc (pc := 152) dX4_tryPair_152 (by decide) rfl (by first | exact nI_inc _ | rfl) (by dsimp only [lst1, lk] <;> rfl) ?_
            refine EV.goto (pc := 155) (tgt := 42) dX4_tryPair_155 (by decide) ?_
            first
            | exact ih (k + 1) h _ _ (by omega) hw
            | (refine ih (k + 1) h _ _ (by omega) ?_; have e5 : vU s P m e (P i) (P j) u (k + 1) B = vU s P m e (P i) (P j) u k B := (by show tryL _ _ _ _ _ _ _ _ _ = _; unfold tryL; rw [if_neg (by omega)]; rfl); rw [e5]; exact hw)
          · try simp only [Int32.lt_iff_toInt_lt, Int32.le_iff_toInt_le, ← Int32.toInt_inj, Int64.lt_iff_toInt_lt, Int64.le_iff_toInt_le, ← Int64.toInt_inj, Int32.toInt_toInt64, i_l0, i_l1, i_l2, i_l5, i_l19, i_m1, j_l0, j_l1, j_l5, i_l3, i_l4, i_l6, i_l7, i_l8, i_l9, i_l12, i_l16, i_l20, i_l60, i_l64, i_l100, i_l200, i_l304, i_l2000, i_l10000, i_l100000, i_l1000000, i_n1000000, i_n19, i_n101, j_l2, j_l3, j_l19, j_l304, j_l2000, j_l10000, j_l100000, j_l1000000, j_l60, j_l100, j_n1000000, j_n19, eb, ea] at c135
            refine EV.aload_n (pc := 139) dX4_tryPair_139 rfl ?_
            refine EV.lload (pc := 140) dX4_tryPair_140 rfl ?_
            refine EV.l2i (pc := 142) dX4_tryPair_142 ?_
            refine EV.topi (y := iI (tA (P i) (P j) (s_ln s u).toInt (s_ln s (u + 1 + k)).toInt)) (jI_i _) ?_
            refine EV.lload (pc := 143) dX4_tryPair_143 rfl ?_
            refine EV.l2i (pc := 145) dX4_tryPair_145 ?_
            refine EV.topi (y := iI (tB (P i) (P j) (s_ln s u).toInt (s_ln s (u + 1 + k)).toInt)) (jI_i _) ?_
            refine EV.iload_n (pc := 146) dX4_tryPair_146 rfl ?_
            refine EV.iload (pc := 147) dX4_tryPair_147 rfl ?_
            refine EV.callVP0 (pc := 149) (M' := M_X4_offer) dX4_tryPair_149 lkX4_305 okV_X4_offer (m_offer P m e hm9 hlc hln he hP hpp (tA (P i) (P j) (s_ln s u).toInt (s_ln s (u + 1 + k)).toInt) (tB (P i) (P j) (s_ln s u).toInt (s_ln s (u + 1 + k)).toInt) (by omega) (by omega) (vU s P m e (P i) (P j) u k B) (okB_v hB) hw) (by decide) rfl rfl (Nat.le_of_ble_eq_true rfl) (by decide) hw.h0 (fun h hw => ?_)
            have e5 : vU s P m e (P i) (P j) u (k + 1) B = ofr (vU s P m e (P i) (P j) u k B) (tA (P i) (P j) (s_ln s u).toInt (s_ln s (u + 1 + k)).toInt) (tB (P i) (P j) (s_ln s u).toInt (s_ln s (u + 1 + k)).toInt) (fitN s P (tA (P i) (P j) (s_ln s u).toInt (s_ln s (u + 1 + k)).toInt) (tB (P i) (P j) (s_ln s u).toInt (s_ln s (u + 1 + k)).toInt) e m) := by show tryL _ _ _ _ _ _ _ _ _ = _; unfold tryL; rw [if_pos (by omega)]; rfl
            rw [← e5] at hw
            refine EV.iinc (pc := 152) dX4_tryPair_152 (by decide) rfl (by first | exact nI_inc _ | rfl) (by dsimp only [lst1, lk] <;> rfl) ?_
            refine EV.goto (pc := 155) (tgt := 42) dX4_tryPair_155 (by decide) ?_
            first
            | exact ih (k + 1) h _ _ (by omega) hw
            | (refine ih (k + 1) h _ _ (by omega) ?_; have e5 : vU s P m e (P i) (P j) u (k + 1) B = vU s P m e (P i) (P j) u k B := (by show tryL _ _ _ _ _ _ _ _ _ = _; unfold tryL; rw [if_neg (by omega)]; rfl); rw [e5]; exact hw)

set_option maxHeartbeats 4000000 in
set_option maxRecDepth 100000 in
theorem l_try_u {G : eG} {ad : Nat → Nat} {s : St} {z : Zc} {hm : Nat → va_E} (P : Nat → Int) (m : Nat) (e : Int) (hm9 : m ≤ 9) (hlc : s_lc s ≤ 12) (hln : ∀ i, i < s_lc s → 1 ≤ (s_ln s i).toInt ∧ (s_ln s i).toInt ≤ 1000000) (he : 0 ≤ e ∧ e ≤ 10000) (hP : ∀ i, i < m → 0 ≤ P i ∧ P i ≤ 2000) (hpp : ∀ i, i < m → c_pp z i = iI (P i)) (i j : Nat) (hi : i < m) (hj : j < m) (hpq : P i < P j) (B : BL) (hB : okB B m) : ∀ (n u : Nat) (h : Nat → va_E) (w8 w9 w11 : Option Value), u + n = s_lc s → CW G ad s (zB z (uU s P m e (P i) (P j) u B)) hm h → EV G M_X4_tryPair cX4_tryPair none ad 54 (fun v h' => v = none ∧ CW G ad s (zB z (uU s P m e (P i) (P j) (s_lc s) B)) hm h') 27 [some (.ref (ad 0)), some (.int (nI i)), some (.int (nI j)), some (.int (nI m)), some (.int (iI e)), some (.long (jI (P j - P i))), none, some (.int (nI u)), w8, w9, none, w11, none] [] h := by
  intro n
  induction n with
  | zero =>
    intro u h w8 w9 w11 hu hw
    have eu : u = s_lc s := by omega
    subst eu
    refine EV.iload (pc := 27) dX4_tryPair_27 rfl ?_
    refine EV.aload_n (pc := 29) dX4_tryPair_29 rfl ?_
    refine EV.getf (pc := 30) dX4_tryPair_30 fgX4_172 (by decide) hw.h0 rfl ?_
    refine EV.icmp_ge (pc := 33) (tgt := 164) dX4_tryPair_33 (by decide) (fun _ => ?_) (fun q => absurd ((nI_leI (by omega) (by omega)).mpr (Nat.le_refl _)) q)
    exact EV.vret (pc := 164) dX4_tryPair_164 trivial ⟨rfl, hw⟩
  | succ n ih =>
    intro u h w8 w9 w11 hu hw
    refine EV.iload (pc := 27) dX4_tryPair_27 rfl ?_
    refine EV.aload_n (pc := 29) dX4_tryPair_29 rfl ?_
    refine EV.getf (pc := 30) dX4_tryPair_30 fgX4_172 (by decide) hw.h0 rfl ?_
    refine EV.icmp_ge (pc := 33) (tgt := 164) dX4_tryPair_33 (by decide) (fun q => absurd q (fun z => absurd ((nI_leI (a := s_lc s) (b := u) (by omega) (by omega)).mp z) (by omega))) (fun _ => ?_)
    refine EV.iload (pc := 36) dX4_tryPair_36 rfl ?_
    refine EV.iconst (pc := 38) (v := 1) dX4_tryPair_38 (by decide) ?_
    refine EV.iadd (pc := 39) dX4_tryPair_39 ?_
    refine EV.topi (y := nI (u + 1 + 0)) (nI_p1 u) ?_
    refine EV.istore (pc := 40) dX4_tryPair_40 (by decide) (by dsimp only [lst1, lk] <;> rfl) ?_
    refine l_try_v P m e hm9 hlc hln he hP hpp i j hi hj hpq u (by omega) (uU s P m e (P i) (P j) u B) (okB_u hB) _ (fun h w8 w9 w11 hw => ?_) (s_lc s - (u + 1)) 0 h _ _ (by omega) hw
    refine EV.iinc (pc := 158) dX4_tryPair_158 (by decide) rfl (by first | exact nI_inc _ | rfl) (by dsimp only [lst1, lk] <;> rfl) ?_
    refine EV.goto (pc := 161) (tgt := 27) dX4_tryPair_161 (by decide) ?_
    exact ih (u + 1) h _ _ _ (by omega) hw

set_option maxHeartbeats 4000000 in
set_option maxRecDepth 100000 in
theorem m_try {G : eG} {ad : Nat → Nat} {h : Nat → va_E}  {s : St} {z : Zc} {hm : Nat → va_E} (P : Nat → Int) (m : Nat) (e : Int) (hm9 : m ≤ 9) (hlc : s_lc s ≤ 12) (hln : ∀ i, i < s_lc s → 1 ≤ (s_ln s i).toInt ∧ (s_ln s i).toInt ≤ 1000000) (he : 0 ≤ e ∧ e ≤ 10000) (hP : ∀ i, i < m → 0 ≤ P i ∧ P i ≤ 2000) (hpp : ∀ i, i < m → c_pp z i = iI (P i)) (i j : Nat) (hi : i < m) (hj : j < m) (hpq : P i < P j) (B : BL) (hB : okB B m) (hw : CW G ad s (zB z B) hm h) : MC G M_X4_tryPair cX4_tryPair ad 54 [.ref (ad 0), .int (nI i), .int (nI j), .int (nI m), .int (iI e)] h (fun v h' => v = none ∧ CW G ad s (zB z (uU s P m e (P i) (P j) (s_lc s) B)) hm h') := by
  refine MC.of (by decide +kernel) (Nat.le_of_ble_eq_true rfl) (by dsimp only [linit, Nat.reduceSub, List.reduceReplicate] <;> rfl) ?_
  have q3 := hP i hi
  have q4 := hP j hj
  refine EV.aload_n (pc := 0) dX4_tryPair_0 rfl ?_
  refine EV.getf (pc := 1) dX4_tryPair_1 fgX4_36 (by decide) hw.h0 rfl ?_
  refine EV.iload_n (pc := 4) dX4_tryPair_4 rfl ?_
  refine EV.iald (pc := 5) dX4_tryPair_5 (by decide) hw.h7 (vp_in_nI (show j < 20 by omega) (by omega)) ?_
  refine EV.topi (y := iI (P j)) (by rw [nI_clamp (by omega)]; exact hpp j hj) ?_
  refine EV.aload_n (pc := 6) dX4_tryPair_6 rfl ?_
  refine EV.getf (pc := 7) dX4_tryPair_7 fgX4_36 (by decide) hw.h0 rfl ?_
  refine EV.iload_n (pc := 10) dX4_tryPair_10 rfl ?_
  refine EV.iald (pc := 11) dX4_tryPair_11 (by decide) hw.h7 (vp_in_nI (show i < 20 by omega) (by omega)) ?_
  refine EV.topi (y := iI (P i)) (by rw [nI_clamp (by omega)]; exact hpp i hi) ?_
  refine EV.isub (pc := 12) dX4_tryPair_12 ?_
  refine EV.topi (y := iI (P j - P i)) (iI_sub _ _) ?_
  refine EV.i2l (pc := 13) dX4_tryPair_13 ?_
  refine EV.topl (y := jI (P j - P i)) (iI_l (by omega) (by omega)) ?_
  refine EV.lstore (pc := 14) dX4_tryPair_14 (by decide) (by dsimp only [lst2, lno, lk] <;> rfl) ?_
  refine EV.lload (pc := 16) dX4_tryPair_16 rfl ?_
  refine EV.lconst (pc := 18) (v := 0) dX4_tryPair_18 (by decide) ?_
  refine EV.lcmp_gt (pc := 19) (tgt := 24) dX4_tryPair_19 dX4_tryPair_20 (by decide) (fun _ => ?_) (fun q => absurd (by rw [show (0 : Int64) = jI 0 from jI_lit 0, jI_lt (by omega) (by omega) (by omega) (by omega)]; omega) q)
  refine EV.iconst (pc := 24) (v := 0) dX4_tryPair_24 (by decide) ?_
  refine EV.istore (pc := 25) dX4_tryPair_25 (by decide) (by dsimp only [lst1, lk] <;> rfl) ?_
  exact l_try_u P m e hm9 hlc hln he hP hpp i j hi hj hpq B hB (s_lc s) 0 h _ _ _ (by omega) hw
