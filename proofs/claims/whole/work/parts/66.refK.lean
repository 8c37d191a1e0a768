set_option maxHeartbeats 4000000 in
set_option maxRecDepth 100000 in
theorem l_nfit_in {G : eG} {ad : Nat → Nat} {h : Nat → va_E} {s : St} {z : Zm} {hm : Nat → va_E} (hw : MW G ad s z hm h) (a b e w : Int) (N i : Nat) (hlc : s_lc s ≤ 12) (hln : ∀ i, i < s_lc s → 1 ≤ (s_ln s i).toInt ∧ (s_ln s i).toInt ≤ 1000000) (he : 0 ≤ e ∧ e ≤ 10000) (hw1 : -1000000 ≤ w ∧ w ≤ 10000000) (post : eP) (kx : ∀ v11 v12 : Option Value, EV G M_X5_fitting cX5_fitting none ad 54 post 94 [some (.ref (ad 34)), some (.long (jI a)), none, some (.long (jI b)), none, some (.int (iI e)), some (.int (nI N)), some (.int (nI i)), some (.long (jI w)), none, some (.int (b2i (nearL (s_ln s) w e (s_lc s)))), v11, v12, none] [] h) : ∀ (n j : Nat) (v12 : Option Value), j + n = s_lc s → EV G M_X5_fitting cX5_fitting none ad 54 post 35 [some (.ref (ad 34)), some (.long (jI a)), none, some (.long (jI b)), none, some (.int (iI e)), some (.int (nI N)), some (.int (nI i)), some (.long (jI w)), none, some (.int (b2i (nearL (s_ln s) w e j))), some (.int (nI j)), v12, none] [] h := by
  intro n
  induction n with
  | zero =>
    intro j v12 hj
    have ej : j = s_lc s := by omega
    subst ej
    refine EV.iload (pc := 35) dX5_fitting_35 rfl ?_
    refine EV.aload_n (pc := 37) dX5_fitting_37 rfl ?_
    refine EV.getf (pc := 38) dX5_fitting_38 fgX5_173 (by decide) hw.h34 rfl ?_
    refine EV.icmp_ge (pc := 41) (tgt := 94) dX5_fitting_41 (by decide) (fun _ => ?_) (fun q => absurd ((nI_leI (a := s_lc s) (b := s_lc s) (by omega) (by omega)).mpr (Nat.le_refl _)) q)
    exact kx _ _
  | succ n ih =>
    intro j v12 hj
    have hj2 : j < s_lc s := by omega
    have q1 := hln j hj2
    refine EV.iload (pc := 35) dX5_fitting_35 rfl ?_
    refine EV.aload_n (pc := 37) dX5_fitting_37 rfl ?_
    refine EV.getf (pc := 38) dX5_fitting_38 fgX5_173 (by decide) hw.h34 rfl ?_
    refine EV.icmp_ge (pc := 41) (tgt := 94) dX5_fitting_41 (by decide) (fun q => absurd q (fun z => absurd ((nI_leI (a := s_lc s) (b := j) (by omega) (by omega)).mp z) (by omega))) (fun _ => ?_)
    refine EV.iload (pc := 44) dX5_fitting_44 rfl ?_
    refine EV.if_ne (pc := 46) (tgt := 94) dX5_fitting_46 (by decide) (fun c46 => ?_) (fun c46 => ?_)
    · refine EV.eq rfl ?_ rfl rfl (kx (some (.int (nI j))) v12)
      have ht := b2i_ne c46
      have hu := nearL_up ht (s_lc s - j)
      rw [show j + (s_lc s - j) = s_lc s by omega] at hu
      rw [hu, ht] <;> rfl
    · have hn := b2i_eq c46
      refine EV.aload_n (pc := 49) dX5_fitting_49 rfl ?_
      refine EV.getf (pc := 50) dX5_fitting_50 fgX5_57 (by decide) hw.h34 rfl ?_
      refine EV.iload (pc := 53) dX5_fitting_53 rfl ?_
      refine EV.iald (pc := 55) dX5_fitting_55 (by decide) hw.h50 (vp_in_nI (show j < 12 by omega) (by omega)) ?_
      refine EV.topi (y := s_ln s j) (by rw [nI_clamp (by omega)]) ?_
      refine EV.i2l (pc := 56) dX5_fitting_56 ?_
      refine EV.topl (y := jI (s_ln s j).toInt) (i_l _) ?_
      refine EV.lload (pc := 57) dX5_fitting_57 rfl ?_
      refine EV.lsub (pc := 59) dX5_fitting_59 ?_
      refine EV.topl (y := jI ((s_ln s j).toInt - w)) (jI_sub _ _) ?_
      refine EV.lstore (pc := 60) dX5_fitting_60 (by decide) (by dsimp only [lst2, lno, lk] <;> rfl) ?_
      refine EV.lload (pc := 62) dX5_fitting_62 rfl ?_
      refine EV.iload (pc := 64) dX5_fitting_64 rfl ?_
      refine EV.i2l (pc := 66) dX5_fitting_66 ?_
      refine EV.topl (y := jI e) (iI_l (by omega) (by omega)) ?_
      refine EV.lcmp_gt (pc := 67) (tgt := 85) dX5_fitting_67 dX5_fitting_68 (by decide) (fun c67 => ?_) (fun c67 => ?_)
      · refine EV.iconst (pc := 85) (v := 0) dX5_fitting_85 (by decide) ?_
        refine EV.topi (y := b2i (nearL (s_ln s) w e (j + 1))) (by first | (rw [jI_lt (by omega) (by omega) (by omega) (by omega)] at c77; rw [nearL_no hn (by omega)]; rfl) | (rw [jI_lt (by omega) (by omega) (by omega) (by omega)] at c67; rw [nearL_no hn (by omega)]; rfl)) ?_
        refine EV.istore (pc := 86) dX5_fitting_86 (by decide) (by dsimp only [lst1, lk] <;> rfl) ?_
        refine EV.iinc (pc := 88) dX5_fitting_88 (by decide) rfl (by first | exact nI_inc _ | rfl) (by dsimp only [lst1, lk] <;> rfl) ?_
        refine EV.goto (pc := 91) (tgt := 35) dX5_fitting_91 (by decide) ?_
        exact ih (j + 1) _ (by omega)
      · refine EV.lload (pc := 71) dX5_fitting_71 rfl ?_
        refine EV.lneg (pc := 73) dX5_fitting_73 ?_
        refine EV.topl (y := jI (-((s_ln s j).toInt - w))) (jI_neg _) ?_
        refine EV.iload (pc := 74) dX5_fitting_74 rfl ?_
        refine EV.i2l (pc := 76) dX5_fitting_76 ?_
        refine EV.topl (y := jI e) (iI_l (by omega) (by omega)) ?_
        refine EV.lcmp_gt (pc := 77) (tgt := 85) dX5_fitting_77 dX5_fitting_78 (by decide) (fun c77 => ?_) (fun c77 => ?_)
        · refine EV.iconst (pc := 85) (v := 0) dX5_fitting_85 (by decide) ?_
          refine EV.topi (y := b2i (nearL (s_ln s) w e (j + 1))) (by first | (rw [jI_lt (by omega) (by omega) (by omega) (by omega)] at c77; rw [nearL_no hn (by omega)]; rfl) | (rw [jI_lt (by omega) (by omega) (by omega) (by omega)] at c67; rw [nearL_no hn (by omega)]; rfl)) ?_
          refine EV.istore (pc := 86) dX5_fitting_86 (by decide) (by dsimp only [lst1, lk] <;> rfl) ?_
          refine EV.iinc (pc := 88) dX5_fitting_88 (by decide) rfl (by first | exact nI_inc _ | rfl) (by dsimp only [lst1, lk] <;> rfl) ?_
          refine EV.goto (pc := 91) (tgt := 35) dX5_fitting_91 (by decide) ?_
          exact ih (j + 1) _ (by omega)
        · refine EV.iconst (pc := 81) (v := 1) dX5_fitting_81 (by decide) ?_
          rw [jI_lt (by omega) (by omega) (by omega) (by omega)] at c77
          rw [jI_lt (by omega) (by omega) (by omega) (by omega)] at c67
          refine EV.topi (y := b2i (nearL (s_ln s) w e (j + 1))) (by rw [nearL_at (i := j) (show j < j + 1 by omega) (by omega)]; rfl) ?_
          refine EV.goto (pc := 82) (tgt := 86) dX5_fitting_82 (by decide) ?_
          refine EV.istore (pc := 86) dX5_fitting_86 (by decide) (by dsimp only [lst1, lk] <;> rfl) ?_
          refine EV.iinc (pc := 88) dX5_fitting_88 (by decide) rfl (by first | exact nI_inc _ | rfl) (by dsimp only [lst1, lk] <;> rfl) ?_
          refine EV.goto (pc := 91) (tgt := 35) dX5_fitting_91 (by decide) ?_
          exact ih (j + 1) _ (by omega)

set_option maxHeartbeats 4000000 in
set_option maxRecDepth 100000 in
theorem l_nfit_x {G : eG} {ad : Nat → Nat} {h : Nat → va_E} {s : St} {z : Zm} {hm : Nat → va_E} (hw : MW G ad s z hm h) (P : Nat → Int) (m : Nat) (e a b : Int) (i : Nat) {post : eP} (v8 v11 v12 : Option Value) (ih : ∀ v8 v10 v11 v12 : Option Value, EV G M_X5_fitting cX5_fitting none ad 54 post 6 [some (.ref (ad 34)), some (.long (jI a)), none, some (.long (jI b)), none, some (.int (iI e)), some (.int (nI (fitN s P a b e (i + 1)))), some (.int (nI (i + 1))), v8, none, v10, v11, v12, none] [] h) : EV G M_X5_fitting cX5_fitting none ad 54 post 94 [some (.ref (ad 34)), some (.long (jI a)), none, some (.long (jI b)), none, some (.int (iI e)), some (.int (nI (fitN s P a b e i))), some (.int (nI i)), v8, none, some (.int (b2i (nearL (s_ln s) (wv a b (P i)) e (s_lc s)))), v11, v12, none] [] h := by
  refine EV.iload (pc := 94) dX5_fitting_94 rfl ?_
  refine EV.iload (pc := 96) dX5_fitting_96 rfl ?_
  refine EV.if_eq (pc := 98) (tgt := 105) dX5_fitting_98 (by decide) (fun c98 => ?_) (fun c98 => ?_)
  · refine EV.iconst (pc := 105) (v := 0) dX5_fitting_105 (by decide) ?_
    refine EV.iadd (pc := 106) dX5_fitting_106 ?_
    refine EV.topi (y := nI (fitN s P a b e (i + 1))) (by simp only [fitN]; first | (rw [if_pos (b2i_ne c98), nI_p1]) | (rw [if_neg (by rw [b2i_eq c98]; simp), Int32.add_zero]; rfl)) ?_
    refine EV.istore (pc := 107) dX5_fitting_107 (by decide) (by dsimp only [lst1, lk] <;> rfl) ?_
    refine EV.iinc (pc := 109) dX5_fitting_109 (by decide) rfl (by first | exact nI_inc _ | rfl) (by dsimp only [lst1, lk] <;> rfl) ?_
    refine EV.goto (pc := 112) (tgt := 6) dX5_fitting_112 (by decide) ?_
    exact ih _ _ _ _
  · refine EV.iconst (pc := 101) (v := 1) dX5_fitting_101 (by decide) ?_
    refine EV.goto (pc := 102) (tgt := 106) dX5_fitting_102 (by decide) ?_
    refine EV.iadd (pc := 106) dX5_fitting_106 ?_
    refine EV.topi (y := nI (fitN s P a b e (i + 1))) (by simp only [fitN]; first | (rw [if_pos (b2i_ne c98), nI_p1]) | (rw [if_neg (by rw [b2i_eq c98]; simp), Int32.add_zero]; rfl)) ?_
    refine EV.istore (pc := 107) dX5_fitting_107 (by decide) (by dsimp only [lst1, lk] <;> rfl) ?_
    refine EV.iinc (pc := 109) dX5_fitting_109 (by decide) rfl (by first | exact nI_inc _ | rfl) (by dsimp only [lst1, lk] <;> rfl) ?_
    refine EV.goto (pc := 112) (tgt := 6) dX5_fitting_112 (by decide) ?_
    exact ih _ _ _ _

set_option maxHeartbeats 4000000 in
set_option maxRecDepth 100000 in
theorem l_nfit {G : eG} {ad : Nat → Nat} {h : Nat → va_E} {s : St} {z : Zm} {hm : Nat → va_E} (hw : MW G ad s z hm h) (P : Nat → Int) (m : Nat) (e : Int) (hm9 : m ≤ 9) (hlc : s_lc s ≤ 12) (hln : ∀ i, i < s_lc s → 1 ≤ (s_ln s i).toInt ∧ (s_ln s i).toInt ≤ 1000000) (he : 0 ≤ e ∧ e ≤ 10000) (hP : ∀ i, i < m → 0 ≤ P i ∧ P i ≤ 2000) (hpm : m_pm z = nI m) (hpp : ∀ i, i < m → m_pp z i = iI (P i)) (a b : Int) (ha : -1000000 ≤ a ∧ a ≤ 1000000) (hb : 1 ≤ b ∧ b ≤ 100000) : ∀ (n i : Nat) (v8 v10 v11 v12 : Option Value), i + n = m → EV G M_X5_fitting cX5_fitting none ad 54 (IS (some (.int (nI (fitN s P a b e m)))) h) 6 [some (.ref (ad 34)), some (.long (jI a)), none, some (.long (jI b)), none, some (.int (iI e)), some (.int (nI (fitN s P a b e i))), some (.int (nI i)), v8, none, v10, v11, v12, none] [] h := by
  intro n
  induction n with
  | zero =>
    intro i v8 v10 v11 v12 hi
    have ei : i = m := by omega
    subst ei
    refine EV.iload (pc := 6) dX5_fitting_6 rfl ?_
    refine EV.aload_n (pc := 8) dX5_fitting_8 rfl ?_
    refine EV.getf (pc := 9) dX5_fitting_9 fgX5_162 (by decide) hw.h34 rfl ?_
    refine EV.topi (y := nI i) hpm ?_
    refine EV.icmp_ge (pc := 12) (tgt := 115) dX5_fitting_12 (by decide) (fun _ => ?_) (fun q => absurd ((nI_leI (a := i) (b := i) (by omega) (by omega)).mpr (Nat.le_refl _)) q)
    refine EV.iload (pc := 115) dX5_fitting_115 rfl ?_
    exact EV.iret (pc := 117) dX5_fitting_117 trivial ⟨rfl, rfl⟩
  | succ n ih =>
    intro i v8 v10 v11 v12 hi
    have hi2 : i < m := by omega
    have qP := hP i hi2
    have qw := wv_in ha (show 0 ≤ b ∧ b ≤ 100000 by omega) qP
    refine EV.iload (pc := 6) dX5_fitting_6 rfl ?_
    refine EV.aload_n (pc := 8) dX5_fitting_8 rfl ?_
    refine EV.getf (pc := 9) dX5_fitting_9 fgX5_162 (by decide) hw.h34 rfl ?_
    refine EV.topi (y := nI m) hpm ?_
    refine EV.icmp_ge (pc := 12) (tgt := 115) dX5_fitting_12 (by decide) (fun q => absurd q (fun z => absurd ((nI_leI (a := m) (b := i) (by omega) (by omega)).mp z) (by omega))) (fun _ => ?_)
    refine EV.lload_n (pc := 15) dX5_fitting_15 rfl ?_
    refine EV.lload_n (pc := 16) dX5_fitting_16 rfl ?_
    refine EV.aload_n (pc := 17) dX5_fitting_17 rfl ?_
    refine EV.getf (pc := 18) dX5_fitting_18 fgX5_66 (by decide) hw.h34 rfl ?_
    refine EV.iload (pc := 21) dX5_fitting_21 rfl ?_
    refine EV.iald (pc := 23) dX5_fitting_23 (by decide) hw.h53 (vp_in_nI (show i < 20 by omega) (by omega)) ?_
    refine EV.topi (y := iI (P i)) (by rw [nI_clamp (by omega)]; exact hpp i hi2) ?_
    refine EV.callSR1 (pc := 24) (M' := M_X5_waveOf) dX5_fitting_24 lkX5_176 okS_X5_waveOf (n_waveOf _ _ _) (by decide) rfl rfl (Nat.le_of_ble_eq_true rfl) ?_
    refine EV.topl (y := jI (wv a b (P i))) (wv_j ha (by omega) qP) ?_
    refine EV.lstore (pc := 27) dX5_fitting_27 (by decide) (by dsimp only [lst2, lno, lk] <;> rfl) ?_
    refine EV.iconst (pc := 29) (v := 0) dX5_fitting_29 (by decide) ?_
    refine EV.istore (pc := 30) dX5_fitting_30 (by decide) (by dsimp only [lst1, lk] <;> rfl) ?_
    refine EV.iconst (pc := 32) (v := 0) dX5_fitting_32 (by decide) ?_
    refine EV.istore (pc := 33) dX5_fitting_33 (by decide) (by dsimp only [lst1, lk] <;> rfl) ?_
    refine l_nfit_in hw a b e (wv a b (P i)) (fitN s P a b e i) i hlc hln he (by omega) _ (fun v11 v12 => ?_) (s_lc s) 0 _ (by omega)
    exact l_nfit_x hw P m e a b i _ _ _ (fun v8 v10 v11 v12 => ih (i + 1) v8 v10 v11 v12 (by omega))

set_option maxHeartbeats 4000000 in
set_option maxRecDepth 100000 in
theorem n_fitting {G : eG} {ad : Nat → Nat} {h : Nat → va_E}  {s : St} {z : Zm} {hm : Nat → va_E} (hw : MW G ad s z hm h) (P : Nat → Int) (m : Nat) (e : Int) (hm9 : m ≤ 9) (hlc : s_lc s ≤ 12) (hln : ∀ i, i < s_lc s → 1 ≤ (s_ln s i).toInt ∧ (s_ln s i).toInt ≤ 1000000) (he : 0 ≤ e ∧ e ≤ 10000) (hP : ∀ i, i < m → 0 ≤ P i ∧ P i ≤ 2000) (hpm : m_pm z = nI m) (hpp : ∀ i, i < m → m_pp z i = iI (P i)) (a b : Int) (ha : -1000000 ≤ a ∧ a ≤ 1000000) (hb : 1 ≤ b ∧ b ≤ 100000) : MC G M_X5_fitting cX5_fitting ad 54 [.ref (ad 34), .long (jI a), .long (jI b), .int (iI e)] h (IS (some (.int (nI (fitN s P a b e m)))) h) := by
  refine MC.of (by decide +kernel) (Nat.le_of_ble_eq_true rfl) (by dsimp only [linit, Nat.reduceSub, List.reduceReplicate] <;> rfl) ?_
  refine EV.iconst (pc := 0) (v := 0) dX5_fitting_0 (by decide) ?_
  refine EV.istore (pc := 1) dX5_fitting_1 (by decide) (by dsimp only [lst1, lk] <;> rfl) ?_
  refine EV.iconst (pc := 3) (v := 0) dX5_fitting_3 (by decide) ?_
  refine EV.istore (pc := 4) dX5_fitting_4 (by decide) (by dsimp only [lst1, lk] <;> rfl) ?_
  exact l_nfit hw P m e hm9 hlc hln he hP hpm hpp a b ha hb m 0 _ _ _ _ (by omega)

def okZ (P : Nat → Int) (m : Nat) (z : Zm) (B : BL) : Prop := m_pm z = nI m ∧ (∀ i, i < m → m_pp z i = iI (P i)) ∧ m_mo z = nI B.1 ∧ (B.1 ≠ 0 → m_bA z = jI B.2.1 ∧ m_bB z = jI B.2.2)
theorem tdv {p q u v : Int} (h : p < q) : (64 * (v - u)).tdiv (q - p) = tB p q u v ∨ ((64 * (v - u)).tdiv (q - p) < 1 ∧ tB p q u v < 1) := by
  unfold tB
  by_cases c : u ≤ v
  · left
    exact fl_pos (by omega)
  · right
    constructor
    · have h1 : (64 * (v - u)).tdiv (q - p) = -((64 * (u - v)).tdiv (q - p)) := by
        rw [← Int.neg_tdiv]
        congr 1
        omega
      have h2 : 0 ≤ (64 * (u - v)).tdiv (q - p) := Int.tdiv_nonneg (by omega) (by omega)
      omega
    · exact Int.ediv_lt_of_lt_mul (by omega) (by omega)

set_option maxHeartbeats 4000000 in
set_option maxRecDepth 100000 in
theorem n_try {G : eG} {ad : Nat → Nat} {h : Nat → va_E}  {s : St} {z : Zm} {hm : Nat → va_E} (hw : MW G ad s z hm h) (P : Nat → Int) (m : Nat) (e : Int) (hm9 : m ≤ 9) (hlc : s_lc s ≤ 12) (hln : ∀ i, i < s_lc s → 1 ≤ (s_ln s i).toInt ∧ (s_ln s i).toInt ≤ 1000000) (he : 0 ≤ e ∧ e ≤ 10000) (hP : ∀ i, i < m → 0 ≤ P i ∧ P i ≤ 2000) (p q u v : Int) (hp : 0 ≤ p ∧ p ≤ 2000) (hq : 0 ≤ q ∧ q ≤ 2000) (hpq : p < q) (hu : 1 ≤ u ∧ u ≤ 1000000) (hv : 1 ≤ v ∧ v ≤ 1000000) (B : BL) (hB : okB B m) (hz : okZ P m z B) : MC G M_X5_tryLaw cX5_tryLaw ad 54 [.ref (ad 34), .int (iI p), .int (iI q), .int (iI u), .int (iI v), .int (iI e)] h (fun v0 h' => v0 = none ∧ ∃ z : Zm, MW G ad s z hm h' ∧ okZ P m z (tryL s P m e p q u v B)) := by
  refine MC.of (by decide +kernel) (Nat.le_of_ble_eq_true rfl) (by dsimp only [linit, Nat.reduceSub, List.reduceReplicate] <;> rfl) ?_
  obtain ⟨hpm, hpp, hmo, hab⟩ := hz
  have qB := okB_le hB
  have qd := tdv (u := u) (v := v) hpq
  have q5 := ediv_in (a := 64 * (v - u)) (g := q - p) (M := 64000000) (by omega) (by omega)
  have q6 : -64000000 ≤ (tB p q u v) ∧ (tB p q u v) ≤ 64000000 := q5
  have q7 := mul_abs q6 hp
  have q8 : -64000000 ≤ ((64 * (v - u)).tdiv (q - p)) ∧ ((64 * (v - u)).tdiv (q - p)) ≤ 64000000 := by
    have := td_bound (a := 64 * (v - u)) (b := q - p) (by omega)
    rcases qd with h | h
    · omega
    · refine ⟨?_, by omega⟩
      have h3 : (64 * (v - u)).tdiv (q - p) = -((64 * (u - v)).tdiv (q - p)) := by rw [← Int.neg_tdiv]; congr 1; omega
      by_cases c : u ≤ v
      · have := Int.tdiv_nonneg (show 0 ≤ 64 * (v - u) by omega) (show 0 ≤ q - p by omega)
        omega
      · rw [h3, fl_pos (show 0 ≤ 64 * (u - v) by omega)]
        have := ediv_in (a := 64 * (u - v)) (g := q - p) (M := 64000000) (by omega) (by omega)
        omega
  have ebt := jI_toInt (a := ((64 * (v - u)).tdiv (q - p))) (by omega) (by omega)
  have eb := jI_toInt (a := (tB p q u v)) (by omega) (by omega)
  have ea : (jI (tA p q u v)).toInt = (tA p q u v) := jI_toInt (by unfold tA; omega) (by unfold tA; omega)
  have hf := fitN_le s P (tA p q u v) (tB p q u v) e m
  have ef := nI_t (show (fitN s P (tA p q u v) (tB p q u v) e m) < 2147483648 by omega)
  have eB := nI_t (show B.1 < 2147483648 by omega)
  have eBa := jI_toInt (a := B.2.1) (by omega) (by omega)
  have eBb := jI_toInt (a := B.2.2) (by omega) (by omega)
  refine EV.ldc2 (pc := 0) dX5_tryLaw_0 kcX5_165 ?_
  refine EV.iload (pc := 3) dX5_tryLaw_3 rfl ?_
  refine EV.iload_n (pc := 5) dX5_tryLaw_5 rfl ?_
  refine EV.isub (pc := 6) dX5_tryLaw_6 ?_
  refine EV.i2l (pc := 7) dX5_tryLaw_7 ?_
  refine EV.lmul (pc := 8) dX5_tryLaw_8 ?_
  refine EV.topl (y := jI (64 * (v - u))) (by rw [show (64 : Int64) = jI 64 from jI_lit 64, iI_sub, iI_l (by omega) (by omega), jI_mul]) ?_
  refine EV.iload_n (pc := 9) dX5_tryLaw_9 rfl ?_
  refine EV.iload_n (pc := 10) dX5_tryLaw_10 rfl ?_
  refine EV.isub (pc := 11) dX5_tryLaw_11 ?_
  refine EV.i2l (pc := 12) dX5_tryLaw_12 ?_
  refine EV.topl (y := jI (q - p)) (by rw [iI_sub, iI_l (by omega) (by omega)]) ?_
  refine EV.ldiv (pc := 13) dX5_tryLaw_13 (by rw [show (0 : Int64) = jI 0 from jI_lit 0, jI_eq (by omega) (by omega) (by omega) (by omega)]; omega) ?_
  refine EV.topl (y := jI ((64 * (v - u)).tdiv (q - p))) (jI_tdiv (by omega) (by omega) (by omega) (by omega)) ?_
  refine EV.lstore (pc := 14) dX5_tryLaw_14 (by decide) (by dsimp only [lst2, lno, lk] <;> rfl) ?_
  refine EV.lload (pc := 16) dX5_tryLaw_16 rfl ?_
  refine EV.lconst (pc := 18) (v := 1) dX5_tryLaw_18 (by decide) ?_
  refine EV.ldc2 (pc := 19) dX5_tryLaw_19 kcX5_143 ?_
  refine EV.callSR1 (pc := 22) (M' := M_X5_in) dX5_tryLaw_22 lkX5_75 okS_X5_in (n_in _ _ _) (by decide) rfl rfl (Nat.le_of_ble_eq_true rfl) ?_
  refine EV.if_ne (pc := 25) (tgt := 29) dX5_tryLaw_25 (by decide) (fun c25 => ?_) (fun c25 => ?_)
  · replace c25 := b2i_T c25
    try simp only [Int32.lt_iff_toInt_lt, Int32.le_iff_toInt_le, ← Int32.toInt_inj, Int64.lt_iff_toInt_lt, Int64.le_iff_toInt_le, ← Int64.toInt_inj, Int32.toInt_toInt64, i_l0, i_l1, i_l2, i_l5, i_l19, i_m1, j_l0, j_l1, j_l5, i_l3, i_l4, i_l6, i_l7, i_l8, i_l9, i_l12, i_l16, i_l20, i_l60, i_l64, i_l100, i_l200, i_l304, i_l2000, i_l10000, i_l100000, i_l1000000, i_n1000000, i_n19, i_n101, j_l2, j_l3, j_l19, j_l304, j_l2000, j_l10000, j_l100000, j_l1000000, j_l60, j_l100, j_n1000000, j_n19, ebt, eb, ea, ef, eB, eBa, eBb] at c25
    have et : ((64 * (v - u)).tdiv (q - p)) = (tB p q u v) := by omega
    rw [et]
    refine EV.iload_n (pc := 29) dX5_tryLaw_29 rfl ?_
    refine EV.i2l (pc := 30) dX5_tryLaw_30 ?_
    refine EV.topl (y := jI u) (iI_l (by omega) (by omega)) ?_
    refine EV.lload (pc := 31) dX5_tryLaw_31 rfl ?_
    refine EV.iload_n (pc := 33) dX5_tryLaw_33 rfl ?_
    refine EV.i2l (pc := 34) dX5_tryLaw_34 ?_
    refine EV.topl (y := jI p) (iI_l (by omega) (by omega)) ?_
    refine EV.lmul (pc := 35) dX5_tryLaw_35 ?_
    refine EV.topl (y := jI ((tB p q u v) * p)) (jI_mul _ _) ?_
    refine EV.ldc2 (pc := 36) dX5_tryLaw_36 kcX5_165 ?_
    refine EV.callSR1 (pc := 39) (M' := M_X5_floor) dX5_tryLaw_39 lkX5_120 okS_X5_floor (n_floor _ _ (by decide +kernel)) (by decide) rfl rfl (Nat.le_of_ble_eq_true rfl) ?_
    refine EV.topl (y := jI ((tB p q u v) * p / 64)) (by rw [jI_toInt (by omega) (by omega)]; rfl) ?_
    refine EV.lsub (pc := 42) dX5_tryLaw_42 ?_
    refine EV.topl (y := jI (tA p q u v)) (jI_sub _ _) ?_
    refine EV.lstore (pc := 43) dX5_tryLaw_43 (by decide) (by dsimp only [lst2, lno, lk] <;> rfl) ?_
    refine EV.lload (pc := 45) dX5_tryLaw_45 rfl ?_
    refine EV.ldc2 (pc := 47) dX5_tryLaw_47 kcX5_180 ?_
    refine EV.ldc2 (pc := 50) dX5_tryLaw_50 kcX5_171 ?_
    refine EV.callSR1 (pc := 53) (M' := M_X5_in) dX5_tryLaw_53 lkX5_75 okS_X5_in (n_in _ _ _) (by decide) rfl rfl (Nat.le_of_ble_eq_true rfl) ?_
    refine EV.if_ne (pc := 56) (tgt := 60) dX5_tryLaw_56 (by decide) (fun c56 => ?_) (fun c56 => ?_)
    · replace c56 := b2i_T c56
      try simp only [Int32.lt_iff_toInt_lt, Int32.le_iff_toInt_le, ← Int32.toInt_inj, Int64.lt_iff_toInt_lt, Int64.le_iff_toInt_le, ← Int64.toInt_inj, Int32.toInt_toInt64, i_l0, i_l1, i_l2, i_l5, i_l19, i_m1, j_l0, j_l1, j_l5, i_l3, i_l4, i_l6, i_l7, i_l8, i_l9, i_l12, i_l16, i_l20, i_l60, i_l64, i_l100, i_l200, i_l304, i_l2000, i_l10000, i_l100000, i_l1000000, i_n1000000, i_n19, i_n101, j_l2, j_l3, j_l19, j_l304, j_l2000, j_l10000, j_l100000, j_l1000000, j_l60, j_l100, j_n1000000, j_n19, ebt, eb, ea, ef, eB, eBa, eBb] at c56
      refine EV.aload_n (pc := 60) dX5_tryLaw_60 rfl ?_
      refine EV.lload (pc := 61) dX5_tryLaw_61 rfl ?_
      refine EV.lload (pc := 63) dX5_tryLaw_63 rfl ?_
      refine EV.iload (pc := 65) dX5_tryLaw_65 rfl ?_
      refine EV.callVR1 (pc := 67) (M' := M_X5_fitting) dX5_tryLaw_67 lkX5_182 okV_X5_fitting (n_fitting hw P m e hm9 hlc hln he hP hpm hpp (tA p q u v) (tB p q u v) (by omega) (by omega)) (by decide) rfl rfl (Nat.le_of_ble_eq_true rfl) (by decide) hw.h34 ?_
      refine EV.istore (pc := 70) dX5_tryLaw_70 (by decide) (by dsimp only [lst1, lk] <;> rfl) ?_
      refine EV.iload (pc := 72) dX5_tryLaw_72 rfl ?_
      refine EV.iconst (pc := 74) (v := 2) dX5_tryLaw_74 (by decide) ?_
      refine EV.icmp_lt (pc := 75) (tgt := 144) dX5_tryLaw_75 (by decide) (fun c75 => ?_) (fun c75 => ?_)
      · try simp only [Int32.lt_iff_toInt_lt, Int32.le_iff_toInt_le, ← Int32.toInt_inj, Int64.lt_iff_toInt_lt, Int64.le_iff_toInt_le, ← Int64.toInt_inj, Int32.toInt_toInt64, i_l0, i_l1, i_l2, i_l5, i_l19, i_m1, j_l0, j_l1, j_l5, i_l3, i_l4, i_l6, i_l7, i_l8, i_l9, i_l12, i_l16, i_l20, i_l60, i_l64, i_l100, i_l200, i_l304, i_l2000, i_l10000, i_l100000, i_l1000000, i_n1000000, i_n19, i_n101, j_l2, j_l3, j_l19, j_l304, j_l2000, j_l10000, j_l100000, j_l1000000, j_l60, j_l100, j_n1000000, j_n19, ebt, eb, ea, ef, eB, eBa, eBb] at c75
        refine EV.vret (pc := 144) dX5_tryLaw_144 trivial ?_
        first
        | (have e6 : tryL s P m e p q u v B = ((fitN s P (tA p q u v) (tB p q u v) e m), (tA p q u v), (tB p q u v)) := (by unfold tryL; rw [if_pos (by omega)]; unfold ofr; rw [if_pos (by omega)]); exact ⟨rfl, _, hw, by rw [e6]; exact ⟨hpm, hpp, rfl, fun _ => ⟨rfl, rfl⟩⟩⟩)
        | (have e6 : tryL s P m e p q u v B = B := (by unfold tryL; rw [if_pos (by omega)]; unfold ofr; rw [if_neg (by omega)]); exact ⟨rfl, z, hw, by rw [e6]; exact ⟨hpm, hpp, hmo, by first | exact hab | exact fun _ => hab⟩⟩)
      · try simp only [Int32.lt_iff_toInt_lt, Int32.le_iff_toInt_le, ← Int32.toInt_inj, Int64.lt_iff_toInt_lt, Int64.le_iff_toInt_le, ← Int64.toInt_inj, Int32.toInt_toInt64, i_l0, i_l1, i_l2, i_l5, i_l19, i_m1, j_l0, j_l1, j_l5, i_l3, i_l4, i_l6, i_l7, i_l8, i_l9, i_l12, i_l16, i_l20, i_l60, i_l64, i_l100, i_l200, i_l304, i_l2000, i_l10000, i_l100000, i_l1000000, i_n1000000, i_n19, i_n101, j_l2, j_l3, j_l19, j_l304, j_l2000, j_l10000, j_l100000, j_l1000000, j_l60, j_l100, j_n1000000, j_n19, ebt, eb, ea, ef, eB, eBa, eBb] at c75
        refine EV.iload (pc := 78) dX5_tryLaw_78 rfl ?_
        refine EV.aload_n (pc := 80) dX5_tryLaw_80 rfl ?_
        refine EV.getf (pc := 81) dX5_tryLaw_81 fgX5_186 (by decide) hw.h34 rfl ?_
        refine EV.topi (y := nI B.1) hmo ?_
        refine EV.icmp_gt (pc := 84) (tgt := 126) dX5_tryLaw_84 (by decide) (fun c84 => ?_) (fun c84 => ?_)
        · try simp only [Int32.lt_iff_toInt_lt, Int32.le_iff_toInt_le, ← Int32.toInt_inj, Int64.lt_iff_toInt_lt, Int64.le_iff_toInt_le, ← Int64.toInt_inj, Int32.toInt_toInt64, i_l0, i_l1, i_l2, i_l5, i_l19, i_m1, j_l0, j_l1, j_l5, i_l3, i_l4, i_l6, i_l7, i_l8, i_l9, i_l12, i_l16, i_l20, i_l60, i_l64, i_l100, i_l200, i_l304, i_l2000, i_l10000, i_l100000, i_l1000000, i_n1000000, i_n19, i_n101, j_l2, j_l3, j_l19, j_l304, j_l2000, j_l10000, j_l100000, j_l1000000, j_l60, j_l100, j_n1000000, j_n19, ebt, eb, ea, ef, eB, eBa, eBb] at c84
          refine EV.aload_n (pc := 126) dX5_tryLaw_126 rfl ?_
          refine EV.iload (pc := 127) dX5_tryLaw_127 rfl ?_
          refine EV.putf (pc := 129) dX5_tryLaw_129 fpX5_186 (by decide) hw.h34 rfl rfl (Nat.le_of_ble_eq_true rfl) ?_
          refine EV.abs (Pr := MW G ad s (M_mo z (nI (fitN s P (tA p q u v) (tB p q u v) e m))) hm) (hw.set_mo _) (fun h hw => ?_)
          refine EV.aload_n (pc := 132) dX5_tryLaw_132 rfl ?_
          refine EV.lload (pc := 133) dX5_tryLaw_133 rfl ?_
          refine EV.putf (pc := 135) dX5_tryLaw_135 fpX5_193 (by decide) hw.h34 rfl rfl (Nat.le_of_ble_eq_true rfl) ?_
          refine EV.abs (Pr := MW G ad s (M_bA (M_mo z (nI (fitN s P (tA p q u v) (tB p q u v) e m))) (jI (tA p q u v))) hm) (hw.set_bA _) (fun h hw => ?_)
          refine EV.aload_n (pc := 138) dX5_tryLaw_138 rfl ?_
          refine EV.lload (pc := 139) dX5_tryLaw_139 rfl ?_
          refine EV.putf (pc := 141) dX5_tryLaw_141 fpX5_189 (by decide) hw.h34 rfl rfl (Nat.le_of_ble_eq_true rfl) ?_
          refine EV.abs (Pr := MW G ad s (M_bB (M_bA (M_mo z (nI (fitN s P (tA p q u v) (tB p q u v) e m))) (jI (tA p q u v))) (jI (tB p q u v))) hm) (hw.set_bB _) (fun h hw => ?_)
          refine EV.vret (pc := 144) dX5_tryLaw_144 trivial ?_
          first
          | (have e6 : tryL s P m e p q u v B = ((fitN s P (tA p q u v) (tB p q u v) e m), (tA p q u v), (tB p q u v)) := (by unfold tryL; rw [if_pos (by omega)]; unfold ofr; rw [if_pos (by omega)]); exact ⟨rfl, _, hw, by rw [e6]; exact ⟨hpm, hpp, rfl, fun _ => ⟨rfl, rfl⟩⟩⟩)
          | (have e6 : tryL s P m e p q u v B = B := (by unfold tryL; rw [if_pos (by omega)]; unfold ofr; rw [if_neg (by omega)]); exact ⟨rfl, z, hw, by rw [e6]; exact ⟨hpm, hpp, hmo, by first | exact hab | exact fun _ => hab⟩⟩)
        · try simp only [Int32.lt_iff_toInt_lt, Int32.le_iff_toInt_le, ← Int32.toInt_inj, Int64.lt_iff_toInt_lt, Int64.le_iff_toInt_le, ← Int64.toInt_inj, Int32.toInt_toInt64, i_l0, i_l1, i_l2, i_l5, i_l19, i_m1, j_l0, j_l1, j_l5, i_l3, i_l4, i_l6, i_l7, i_l8, i_l9, i_l12, i_l16, i_l20, i_l60, i_l64, i_l100, i_l200, i_l304, i_l2000, i_l10000, i_l100000, i_l1000000, i_n1000000, i_n19, i_n101, j_l2, j_l3, j_l19, j_l304, j_l2000, j_l10000, j_l100000, j_l1000000, j_l60, j_l100, j_n1000000, j_n19, ebt, eb, ea, ef, eB, eBa, eBb] at c84
          refine EV.iload (pc := 87) dX5_tryLaw_87 rfl ?_
          refine EV.aload_n (pc := 89) dX5_tryLaw_89 rfl ?_
          refine EV.getf (pc := 90) dX5_tryLaw_90 fgX5_186 (by decide) hw.h34 rfl ?_
          refine EV.topi (y := nI B.1) hmo ?_
          refine EV.icmp_ne (pc := 93) (tgt := 144) dX5_tryLaw_93 (by decide) (fun c93 => ?_) (fun c93 => ?_)
          · try simp only [Int32.lt_iff_toInt_lt, Int32.le_iff_toInt_le, ← Int32.toInt_inj, Int64.lt_iff_toInt_lt, Int64.le_iff_toInt_le, ← Int64.toInt_inj, Int32.toInt_toInt64, i_l0, i_l1, i_l2, i_l5, i_l19, i_m1, j_l0, j_l1, j_l5, i_l3, i_l4, i_l6, i_l7, i_l8, i_l9, i_l12, i_l16, i_l20, i_l60, i_l64, i_l100, i_l200, i_l304, i_l2000, i_l10000, i_l100000, i_l1000000, i_n1000000, i_n19, i_n101, j_l2, j_l3, j_l19, j_l304, j_l2000, j_l10000, j_l100000, j_l1000000, j_l60, j_l100, j_n1000000, j_n19, ebt, eb, ea, ef, eB, eBa, eBb] at c93
            refine EV.vret (pc := 144) dX5_tryLaw_144 trivial ?_
            first
            | (have e6 : tryL s P m e p q u v B = ((fitN s P (tA p q u v) (tB p q u v) e m), (tA p q u v), (tB p q u v)) := (by unfold tryL; rw [if_pos (by omega)]; unfold ofr; rw [if_pos (by omega)]); exact ⟨rfl, _, hw, by rw [e6]; exact ⟨hpm, hpp, rfl, fun _ => ⟨rfl, rfl⟩⟩⟩)
            | (have e6 : tryL s P m e p q u v B = B := (by unfold tryL; rw [if_pos (by omega)]; unfold ofr; rw [if_neg (by omega)]); exact ⟨rfl, z, hw, by rw [e6]; exact ⟨hpm, hpp, hmo, by first | exact hab | exact fun _ => hab⟩⟩)
          · try simp only [Int32.lt_iff_toInt_lt, Int32.le_iff_toInt_le, ← Int32.toInt_inj, Int64.lt_iff_toInt_lt, Int64.le_iff_toInt_le, ← Int64.toInt_inj, Int32.toInt_toInt64, i_l0, i_l1, i_l2, i_l5, i_l19, i_m1, j_l0, j_l1, j_l5, i_l3, i_l4, i_l6, i_l7, i_l8, i_l9, i_l12, i_l16, i_l20, i_l60, i_l64, i_l100, i_l200, i_l304, i_l2000, i_l10000, i_l100000, i_l1000000, i_n1000000, i_n19, i_n101, j_l2, j_l3, j_l19, j_l304, j_l2000, j_l10000, j_l100000, j_l1000000, j_l60, j_l100, j_n1000000, j_n19, ebt, eb, ea, ef, eB, eBa, eBb] at c93
            refine EV.lload (pc := 96) dX5_tryLaw_96 rfl ?_
            refine EV.aload_n (pc := 98) dX5_tryLaw_98 rfl ?_
            refine EV.getf (pc := 99) dX5_tryLaw_99 fgX5_189 (by decide) hw.h34 rfl ?_
            have hab := hab (by omega)
            refine EV.topl (y := jI B.2.2) hab.2 ?_
            refine EV.lcmp_lt (pc := 102) (tgt := 126) dX5_tryLaw_102 dX5_tryLaw_103 (by decide) (fun c102 => ?_) (fun c102 => ?_)
            · try simp only [Int32.lt_iff_toInt_lt, Int32.le_iff_toInt_le, ← Int32.toInt_inj, Int64.lt_iff_toInt_lt, Int64.le_iff_toInt_le, ← Int64.toInt_inj, Int32.toInt_toInt64, i_l0, i_l1, i_l2, i_l5, i_l19, i_m1, j_l0, j_l1, j_l5, i_l3, i_l4, i_l6, i_l7, i_l8, i_l9, i_l12, i_l16, i_l20, i_l60, i_l64, i_l100, i_l200, i_l304, i_l2000, i_l10000, i_l100000, i_l1000000, i_n1000000, i_n19, i_n101, j_l2, j_l3, j_l19, j_l304, j_l2000, j_l10000, j_l100000, j_l1000000, j_l60, j_l100, j_n1000000, j_n19, ebt, eb, ea, ef, eB, eBa, eBb] at c102
              refine EV.aload_n (pc := 126) dX5_tryLaw_126 rfl ?_
              refine EV.iload (pc := 127) dX5_tryLaw_127 rfl ?_
              refine EV.putf (pc := 129) dX5_tryLaw_129 fpX5_186 (by decide) hw.h34 rfl rfl (Nat.le_of_ble_eq_true rfl) ?_
              refine EV.abs (Pr := MW G ad s (M_mo z (nI (fitN s P (tA p q u v) (tB p q u v) e m))) hm) (hw.set_mo _) (fun h hw => ?_)
              refine EV.aload_n (pc := 132) dX5_tryLaw_132 rfl ?_
              refine EV.lload (pc := 133) dX5_tryLaw_133 rfl ?_
              refine EV.putf (pc := 135) dX5_tryLaw_135 fpX5_193 (by decide) hw.h34 rfl rfl (Nat.le_of_ble_eq_true rfl) ?_
              refine EV.abs (Pr := MW G ad s (M_bA (M_mo z (nI (fitN s P (tA p q u v) (tB p q u v) e m))) (jI (tA p q u v))) hm) (hw.set_bA _) (fun h hw => ?_)
              refine EV.aload_n (pc := 138) dX5_tryLaw_138 rfl ?_
              refine EV.lload (pc := 139) dX5_tryLaw_139 rfl ?_
              refine EV.putf (pc := 141) dX5_tryLaw_141 fpX5_189 (by decide) hw.h34 rfl rfl (Nat.le_of_ble_eq_true rfl) ?_
              refine EV.abs (Pr := MW G ad s (M_bB (M_bA (M_mo z (nI (fitN s P (tA p q u v) (tB p q u v) e m))) (jI (tA p q u v))) (jI (tB p q u v))) hm) (hw.set_bB _) (fun h hw => ?_)
              refine EV.vret (pc := 144) dX5_tryLaw_144 trivial ?_
              first
              | (have e6 : tryL s P m e p q u v B = ((fitN s P (tA p q u v) (tB p q u v) e m), (tA p q u v), (tB p q u v)) := (by unfold tryL; rw [if_pos (by omega)]; unfold ofr; rw [if_pos (by omega)]); exact ⟨rfl, _, hw, by rw [e6]; exact ⟨hpm, hpp, rfl, fun _ => ⟨rfl, rfl⟩⟩⟩)
              | (have e6 : tryL s P m e p q u v B = B := (by unfold tryL; rw [if_pos (by omega)]; unfold ofr; rw [if_neg (by omega)]); exact ⟨rfl, z, hw, by rw [e6]; exact ⟨hpm, hpp, hmo, by first | exact hab | exact fun _ => hab⟩⟩)
            · try simp only [Int32.lt_iff_toInt_lt, Int32.le_iff_toInt_le, ← Int32.toInt_inj, Int64.lt_iff_toInt_lt, Int64.le_iff_toInt_le, ← Int64.toInt_inj, Int32.toInt_toInt64, i_l0, i_l1, i_l2, i_l5, i_l19, i_m1, j_l0, j_l1, j_l5, i_l3, i_l4, i_l6, i_l7, i_l8, i_l9, i_l12, i_l16, i_l20, i_l60, i_l64, i_l100, i_l200, i_l304, i_l2000, i_l10000, i_l100000, i_l1000000, i_n1000000, i_n19, i_n101, j_l2, j_l3, j_l19, j_l304, j_l2000, j_l10000, j_l100000, j_l1000000, j_l60, j_l100, j_n1000000, j_n19, ebt, eb, ea, ef, eB, eBa, eBb] at c102
              refine EV.lload (pc := 106) dX5_tryLaw_106 rfl ?_
              refine EV.aload_n (pc := 108) dX5_tryLaw_108 rfl ?_
              refine EV.getf (pc := 109) dX5_tryLaw_109 fgX5_189 (by decide) hw.h34 rfl ?_
              refine EV.topl (y := jI B.2.2) hab.2 ?_
              refine EV.lcmp_ne (pc := 112) (tgt := 144) dX5_tryLaw_112 dX5_tryLaw_113 (by decide) (fun c112 => ?_) (fun c112 => ?_)
              · try simp only [Int32.lt_iff_toInt_lt, Int32.le_iff_toInt_le, ← Int32.toInt_inj, Int64.lt_iff_toInt_lt, Int64.le_iff_toInt_le, ← Int64.toInt_inj, Int32.toInt_toInt64, i_l0, i_l1, i_l2, i_l5, i_l19, i_m1, j_l0, j_l1, j_l5, i_l3, i_l4, i_l6, i_l7, i_l8, i_l9, i_l12, i_l16, i_l20, i_l60, i_l64, i_l100, i_l200, i_l304, i_l2000, i_l10000, i_l100000, i_l1000000, i_n1000000, i_n19, i_n101, j_l2, j_l3, j_l19, j_l304, j_l2000, j_l10000, j_l100000, j_l1000000, j_l60, j_l100, j_n1000000, j_n19, ebt, eb, ea, ef, eB, eBa, eBb] at c112
                refine EV.vret (pc := 144) dX5_tryLaw_144 trivial ?_
                first
                | (have e6 : tryL s P m e p q u v B = ((fitN s P (tA p q u v) (tB p q u v) e m), (tA p q u v), (tB p q u v)) := (by unfold tryL; rw [if_pos (by omega)]; unfold ofr; rw [if_pos (by omega)]); exact ⟨rfl, _, hw, by rw [e6]; exact ⟨hpm, hpp, rfl, fun _ => ⟨rfl, rfl⟩⟩⟩)
                | (have e6 : tryL s P m e p q u v B = B := (by unfold tryL; rw [if_pos (by omega)]; unfold ofr; rw [if_neg (by omega)]); exact ⟨rfl, z, hw, by rw [e6]; exact ⟨hpm, hpp, hmo, by first | exact hab | exact fun _ => hab⟩⟩)
              · try simp only [Int32.lt_iff_toInt_lt, Int32.le_iff_toInt_le, ← Int32.toInt_inj, Int64.lt_iff_toInt_lt, Int64.le_iff_toInt_le, ← Int64.toInt_inj, Int32.toInt_toInt64, i_l0, i_l1, i_l2, i_l5, i_l19, i_m1, j_l0, j_l1, j_l5, i_l3, i_l4, i_l6, i_l7, i_l8, i_l9, i_l12, i_l16, i_l20, i_l60, i_l64, i_l100, i_l200, i_l304, i_l2000, i_l10000, i_l100000, i_l1000000, i_n1000000, i_n19, i_n101, j_l2, j_l3, j_l19, j_l304, j_l2000, j_l10000, j_l100000, j_l1000000, j_l60, j_l100, j_n1000000, j_n19, ebt, eb, ea, ef, eB, eBa, eBb] at c112
                refine EV.lload (pc := 116) dX5_tryLaw_116 rfl ?_
                refine EV.aload_n (pc := 118) dX5_tryLaw_118 rfl ?_
                refine EV.getf (pc := 119) dX5_tryLaw_119 fgX5_193 (by decide) hw.h34 rfl ?_
                refine EV.topl (y := jI B.2.1) hab.1 ?_
                refine EV.lcmp_ge (pc := 122) (tgt := 144) dX5_tryLaw_122 dX5_tryLaw_123 (by decide) (fun c122 => ?_) (fun c122 => ?_)
                · try simp only [Int32.lt_iff_toInt_lt, Int32.le_iff_toInt_le, ← Int32.toInt_inj, Int64.lt_iff_toInt_lt, Int64.le_iff_toInt_le, ← Int64.toInt_inj, Int32.toInt_toInt64, i_l0, i_l1, i_l2, i_l5, i_l19, i_m1, j_l0, j_l1, j_l5, i_l3, i_l4, i_l6, i_l7, i_l8, i_l9, i_l12, i_l16, i_l20, i_l60, i_l64, i_l100, i_l200, i_l304, i_l2000, i_l10000, i_l100000, i_l1000000, i_n1000000, i_n19, i_n101, j_l2, j_l3, j_l19, j_l304, j_l2000, j_l10000, j_l100000, j_l1000000, j_l60, j_l100, j_n1000000, j_n19, ebt, eb, ea, ef, eB, eBa, eBb] at c122
                  refine EV.vret (pc := 144) dX5_tryLaw_144 trivial ?_
                  first
                  | (have e6 : tryL s P m e p q u v B = ((fitN s P (tA p q u v) (tB p q u v) e m), (tA p q u v), (tB p q u v)) := (by unfold tryL; rw [if_pos (by omega)]; unfold ofr; rw [if_pos (by omega)]); exact ⟨rfl, _, hw, by rw [e6]; exact ⟨hpm, hpp, rfl, fun _ => ⟨rfl, rfl⟩⟩⟩)
                  | (have e6 : tryL s P m e p q u v B = B := (by unfold tryL; rw [if_pos (by omega)]; unfold ofr; rw [if_neg (by omega)]); exact ⟨rfl, z, hw, by rw [e6]; exact ⟨hpm, hpp, hmo, by first | exact hab | exact fun _ => hab⟩⟩)
                · try simp only [Int32.lt_iff_toInt_lt, Int32.le_iff_toInt_le, ← Int32.toInt_inj, Int64.lt_iff_toInt_lt, Int64.le_iff_toInt_le, ← Int64.toInt_inj, Int32.toInt_toInt64, i_l0, i_l1, i_l2, i_l5, i_l19, i_m1, j_l0, j_l1, j_l5, i_l3, i_l4, i_l6, i_l7, i_l8, i_l9, i_l12, i_l16, i_l20, i_l60, i_l64, i_l100, i_l200, i_l304, i_l2000, i_l10000, i_l100000, i_l1000000, i_n1000000, i_n19, i_n101, j_l2, j_l3, j_l19, j_l304, j_l2000, j_l10000, j_l100000, j_l1000000, j_l60, j_l100, j_n1000000, j_n19, ebt, eb, ea, ef, eB, eBa, eBb] at c122
                  refine EV.aload_n (pc := 126) dX5_tryLaw_126 rfl ?_
                  refine EV.iload (pc := 127) dX5_tryLaw_127 rfl ?_
                  refine EV.putf (pc := 129) dX5_tryLaw_129 fpX5_186 (by decide) hw.h34 rfl rfl (Nat.le_of_ble_eq_true rfl) ?_
                  refine EV.abs (Pr := MW G ad s (M_mo z (nI (fitN s P (tA p q u v) (tB p q u v) e m))) hm) (hw.set_mo _) (fun h hw => ?_)
                  refine EV.aload_n (pc := 132) dX5_tryLaw_132 rfl ?_
                  refine EV.lload (pc := 133) dX5_tryLaw_133 rfl ?_
                  refine EV.putf (pc := 135) dX5_tryLaw_135 fpX5_193 (by decide) hw.h34 rfl rfl (Nat.le_of_ble_eq_true rfl) ?_
                  refine EV.abs (Pr := MW G ad s (M_bA (M_mo z (nI (fitN s P (tA p q u v) (tB p q u v) e m))) (jI (tA p q u v))) hm) (hw.set_bA _) (fun h hw => ?_)
                  refine EV.aload_n (pc := 138) dX5_tryLaw_138 rfl ?_
                  refine EV.lload (pc := 139) dX5_tryLaw_139 rfl ?_
                  refine EV.putf (pc := 141) dX5_tryLaw_141 fpX5_189 (by decide) hw.h34 rfl rfl (Nat.le_of_ble_eq_true rfl) ?_
                  refine EV.abs (Pr := MW G ad s (M_bB (M_bA (M_mo z (nI (fitN s P (tA p q u v) (tB p q u v) e m))) (jI (tA p q u v))) (jI (tB p q u v))) hm) (hw.set_bB _) (fun h hw => ?_)
                  refine EV.vret (pc := 144) dX5_tryLaw_144 trivial ?_
                  first
                  | (have e6 : tryL s P m e p q u v B = ((fitN s P (tA p q u v) (tB p q u v) e m), (tA p q u v), (tB p q u v)) := (by unfold tryL; rw [if_pos (by omega)]; unfold ofr; rw [if_pos (by omega)]); exact ⟨rfl, _, hw, by rw [e6]; exact ⟨hpm, hpp, rfl, fun _ => ⟨rfl, rfl⟩⟩⟩)
                  | (have e6 : tryL s P m e p q u v B = B := (by unfold tryL; rw [if_pos (by omega)]; unfold ofr; rw [if_neg (by omega)]); exact ⟨rfl, z, hw, by rw [e6]; exact ⟨hpm, hpp, hmo, by first | exact hab | exact fun _ => hab⟩⟩)
    · replace c56 := b2i_F c56
      try simp only [Int32.lt_iff_toInt_lt, Int32.le_iff_toInt_le, ← Int32.toInt_inj, Int64.lt_iff_toInt_lt, Int64.le_iff_toInt_le, ← Int64.toInt_inj, Int32.toInt_toInt64, i_l0, i_l1, i_l2, i_l5, i_l19, i_m1, j_l0, j_l1, j_l5, i_l3, i_l4, i_l6, i_l7, i_l8, i_l9, i_l12, i_l16, i_l20, i_l60, i_l64, i_l100, i_l200, i_l304, i_l2000, i_l10000, i_l100000, i_l1000000, i_n1000000, i_n19, i_n101, j_l2, j_l3, j_l19, j_l304, j_l2000, j_l10000, j_l100000, j_l1000000, j_l60, j_l100, j_n1000000, j_n19, ebt, eb, ea, ef, eB, eBa, eBb] at c56
      refine EV.vret (pc := 59) dX5_tryLaw_59 trivial ?_
      have e6 : tryL s P m e p q u v B = B := by unfold tryL; rw [if_neg (by omega)]
      exact ⟨rfl, z, hw, by rw [e6]; exact ⟨hpm, hpp, hmo, hab⟩⟩
  · replace c25 := b2i_F c25
    try simp only [Int32.lt_iff_toInt_lt, Int32.le_iff_toInt_le, ← Int32.toInt_inj, Int64.lt_iff_toInt_lt, Int64.le_iff_toInt_le, ← Int64.toInt_inj, Int32.toInt_toInt64, i_l0, i_l1, i_l2, i_l5, i_l19, i_m1, j_l0, j_l1, j_l5, i_l3, i_l4, i_l6, i_l7, i_l8, i_l9, i_l12, i_l16, i_l20, i_l60, i_l64, i_l100, i_l200, i_l304, i_l2000, i_l10000, i_l100000, i_l1000000, i_n1000000, i_n19, i_n101, j_l2, j_l3, j_l19, j_l304, j_l2000, j_l10000, j_l100000, j_l1000000, j_l60, j_l100, j_n1000000, j_n19, ebt, eb, ea, ef, eB, eBa, eBb] at c25
    refine EV.vret (pc := 28) dX5_tryLaw_28 trivial ?_
    have e6 : tryL s P m e p q u v B = B := by unfold tryL; rw [if_neg (by omega)]
    exact ⟨rfl, z, hw, by rw [e6]; exact ⟨hpm, hpp, hmo, hab⟩⟩
