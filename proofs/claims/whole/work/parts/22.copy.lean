/-- cells row by row: those ahead of (x, y) are new -/
def cpF (nv ft : Nat → Int32) (w y x : Nat) : Nat → Int32 := fun k => if k < 400 ∧ k % 20 < w ∧ (k / 20 < y ∨ (k / 20 = y ∧ k % 20 < x)) then nv k else ft k
theorem cpF_set {nv ft : Nat → Int32} {w y x : Nat} (hx : x < w) (hw : w ≤ 20) (hy : y < 20) : upd (cpF nv ft w y x) (y * 20 + x) (nv (y * 20 + x)) = cpF nv ft w y (x + 1) := by
  funext k
  simp only [upd, cpF]
  by_cases e : k = y * 20 + x
  · subst e
    rw [if_pos rfl, if_pos (by omega)]
  · rw [if_neg e]
    by_cases c : k < 400 ∧ k % 20 < w ∧ (k / 20 < y ∨ (k / 20 = y ∧ k % 20 < x))
    · rw [if_pos c, if_pos (by omega)]
    · rw [if_neg c, if_neg (by omega)]
theorem cpF_row {nv ft : Nat → Int32} {w y : Nat} : cpF nv ft w y w = cpF nv ft w (y + 1) 0 := by
  funext k
  simp only [cpF]
  by_cases c : k < 400 ∧ k % 20 < w ∧ (k / 20 < y ∨ (k / 20 = y ∧ k % 20 < w))
  · rw [if_pos c, if_pos (by omega)]
  · rw [if_neg c, if_neg (by omega)]
theorem cpF_0 {nv ft : Nat → Int32} {w : Nat} : cpF nv ft w 0 0 = ft := by
  funext k
  simp only [cpF]
  rw [if_neg (by omega)]
theorem cpF_un {nv ft : Nat → Int32} {w y x : Nat} (hx : x < 20) : cpF nv ft w y x (y * 20 + x) = ft (y * 20 + x) := by
  simp only [cpF]
  rw [if_neg (by omega)]
theorem cpF_end {nv ft : Nat → Int32} {w t : Nat} (ht : t ≤ 20) (hz : ∀ k, k < 400 → (w ≤ k % 20 ∨ t ≤ k / 20) → nv k = ft k) : cpF nv ft w t 0 = fun k => if k < 400 then nv k else ft k := by
  funext k
  simp only [cpF]
  by_cases c : k < 400
  · rw [if_pos c]
    by_cases d : k % 20 < w ∧ k / 20 < t
    · rw [if_pos (by omega)]
    · rw [if_neg (by omega)]
      exact (hz k c (by omega)).symm
  · rw [if_neg c, if_neg (by omega)]
theorem ct_ct {s : St} {t : Nat} {F F2 : Nat → Int32} : S_ct (S_ct s (va_up (s_ct s) t F)) (va_up (s_ct (S_ct s (va_up (s_ct s) t F))) t F2) = S_ct s (va_up (s_ct s) t F2) := by
  show S_ct s (va_up (va_up (s_ct s) t F) t F2) = _
  rw [bx_uu]
theorem ct_id {s : St} {t : Nat} : S_ct s (va_up (s_ct s) t (s_ct s t)) = s := by
  show (_, _, _, _, va_up (s_ct s) t (s_ct s t), _) = s
  rw [va_up_id]
theorem ct_rd {s : St} {a t : Nat} {nv : Nat → Int32} {w y x : Nat} (hx : x < 20) : va_up (s_ct s) t (cpF nv (s_ct s t) w y x) a (y * 20 + x) = s_ct s a (y * 20 + x) := by
  by_cases e : a = t
  · subst e; rw [va_up_s, cpF_un hx]
  · rw [va_up_n e]
def g_copy (s : St) (a t : Nat) : Int32 × St := if s_lost s a = true ∨ s_lost s t = true then (-11, f_caus s 1) else if s_lane s a = s_lane s t then (if s_w s a = s_w s t ∧ s_h s a = s_h s t then (1, S_ct s (va_up (s_ct s) t (fun k => if k < 400 then s_ct s a k else s_ct s t k))) else (-15, f_caus s 5)) else (-14, f_caus s 4)
def f_copy (s : St) (p q : Int32) : Int32 × St := if (0 ≤ p.toInt ∧ p.toInt ≤ 5) ∧ (0 ≤ q.toInt ∧ q.toInt ≤ 5) then g_copy s p.toInt.toNat q.toInt.toNat else (-101, s)
def g_less (s : St) (a t : Nat) : Int32 × St := if s_lost s a = true ∨ s_lost s t = true then (-11, f_caus s 1) else if s_w s a = s_w s t ∧ s_h s a = s_h s t then (1, S_ct s (va_up (s_ct s) t (fun k => if k < 400 then iCast (s_ct s t k - s_ct s a k) (nI (s_lane s t)) else s_ct s t k))) else (-15, f_caus s 5)
def f_less (s : St) (p q : Int32) : Int32 × St := if (0 ≤ p.toInt ∧ p.toInt ≤ 5) ∧ (0 ≤ q.toInt ∧ q.toInt ≤ 5) then g_less s p.toInt.toNat q.toInt.toNat else (-101, s)
theorem iCast_0 (l : Int32) : iCast 0 l = 0 := by unfold iCast; split <;> (try split) <;> decide +kernel

set_option maxHeartbeats 4000000 in
set_option maxRecDepth 100000 in
theorem l_copy_in {G : eG} {ad : Nat → Nat} {s : St} {z : Zc} {hm : Nat → va_E} (a t : Nat) (c1 c2 : Option Value) (ha : a < 6) (ht : t < 6) (hI : Inv s) (hsw : s_w s a = s_w s t) (hsh : s_h s a = s_h s t) (hla : s_lane s a = s_lane s t) (y : Nat) (hy : y < s_h s t) (post : eP) (kx : ∀ (h : Nat → va_E) (v : Option Value), CW G ad (S_ct s (va_up (s_ct s) t (cpF (s_ct s a) (s_ct s t) (s_w s t) y (s_w s t)))) z hm h → EV G M_X4_copy cX4_copy none ad 54 post 128 [some (.ref (ad 0)), c1, c2, some (.ref (ad (10 + 2 * a))), some (.ref (ad (10 + 2 * t))), some (.int (nI y)), v] [] h) : ∀ (n x : Nat) (h : Nat → va_E), x + n = s_w s t → CW G ad (S_ct s (va_up (s_ct s) t (cpF (s_ct s a) (s_ct s t) (s_w s t) y x))) z hm h → EV G M_X4_copy cX4_copy none ad 54 post 95 [some (.ref (ad 0)), c1, c2, some (.ref (ad (10 + 2 * a))), some (.ref (ad (10 + 2 * t))), some (.int (nI y)), some (.int (nI x))] [] h := by
  have hd := hI.1 t ht
  intro n
  induction n with
  | zero =>
    intro x h hx hw
    have e : x = s_w s t := by omega
    subst e
    refine EV.iload (pc := 95) dX4_copy_95 rfl ?_
    refine EV.aload (pc := 97) dX4_copy_97 rfl ?_
    refine EV.getf (pc := 99) dX4_copy_99 fgX4_93 (show 10 + 2 * t < 54 by omega) (hw.pl' ht) rfl ?_
    refine EV.icmp_ge (pc := 102) (tgt := 128) dX4_copy_102 (by decide) (fun _ => ?_) (fun q => absurd ((nI_leI (a := s_w s t) (b := s_w s t) (by omega) (by omega)).mpr (Nat.le_refl _)) q)
    exact kx h _ hw
  | succ n ih =>
    intro x h hx hw
    refine EV.iload (pc := 95) dX4_copy_95 rfl ?_
    refine EV.aload (pc := 97) dX4_copy_97 rfl ?_
    refine EV.getf (pc := 99) dX4_copy_99 fgX4_93 (show 10 + 2 * t < 54 by omega) (hw.pl' ht) rfl ?_
    refine EV.icmp_ge (pc := 102) (tgt := 128) dX4_copy_102 (by decide) (fun q => absurd q (fun z => absurd ((nI_leI (a := s_w s t) (b := x) (by omega) (by omega)).mp z) (by omega))) (fun _ => ?_)
    refine EV.aload (pc := 105) dX4_copy_105 rfl ?_
    refine EV.iload (pc := 107) dX4_copy_107 rfl ?_
    refine EV.iload (pc := 109) dX4_copy_109 rfl ?_
    refine EV.aload_n (pc := 111) dX4_copy_111 rfl ?_
    refine EV.iload (pc := 112) dX4_copy_112 rfl ?_
    refine EV.iload (pc := 114) dX4_copy_114 rfl ?_
    refine EV.callVR1 (pc := 116) (M' := M_X2_at) dX4_copy_116 lkX4_96 okV_X2_at (m_pat (10 + 2 * a) (11 + 2 * a) (b2i (s_lost s a)) (s_lane s a) (s_w s t) (s_h s t) (va_up (s_ct s) t (cpF (s_ct s a) (s_ct s t) (s_w s t) y x) a) _ _ (by omega) (by omega) hd.1 hd.2.1 (by rw [← hsw, ← hsh]; exact hw.pl' ha) (hw.ct a ha)) (by decide) rfl rfl (Nat.le_of_ble_eq_true rfl) (show 10 + 2 * a < 54 by omega) (hw.pl' ha) ?_
    refine EV.topi (y := s_ct s a (y * 20 + x)) (by rw [pAt_n (by omega) hy hd.1 hd.2.1, ct_rd (by omega)]) ?_
    have hca : iCast (s_ct s a (y * 20 + x)) (nI (s_lane s t)) = s_ct s a (y * 20 + x) := by rw [← hla]; exact hI.2.2.2.2.2.2.2.2.2.2.2.2 a ha _ (by omega)
    refine EV.callVR0 (pc := 119) (M' := M_X2_set) dX4_copy_119 lkX4_83 okV_X2_set (m_pset (10 + 2 * t) (11 + 2 * t) (b2i (s_lost s t)) (s_lane s t) (s_w s t) (s_h s t) (va_up (s_ct s) t (cpF (s_ct s a) (s_ct s t) (s_w s t) y x) t) (nI x) (nI y) _ (by omega) (by omega) hd.1 hd.2.1 (hw.pl' ht) (hw.ct t ht) (by rw [nI_t (by omega), nI_t (by omega)]; omega)) (by decide) rfl rfl (Nat.le_of_ble_eq_true rfl) (show 10 + 2 * t < 54 by omega) (hw.pl' ht) ?_
    refine EV.abs (Pr := CW G ad (S_ct s (va_up (s_ct s) t (cpF (s_ct s a) (s_ct s t) (s_w s t) y (x + 1)))) z hm) (by
      have q := hw.set_ct t (cpF (s_ct s a) (s_ct s t) (s_w s t) y (x + 1)) ht
      rw [ct_ct] at q
      rw [va_up_s, nI_tn (by omega), nI_tn (by omega), hca, cpF_set (by omega) hd.1 (by omega)]
      exact q) (fun h hw => ?_)
    refine EV.iinc (pc := 122) dX4_copy_122 (by decide) rfl (by first | exact nI_inc _ | rfl) (by dsimp only [lst1, lk] <;> rfl) ?_
    refine EV.goto (pc := 125) (tgt := 95) dX4_copy_125 (by decide) ?_
    exact ih (x + 1) h (by omega) hw

set_option maxHeartbeats 4000000 in
set_option maxRecDepth 100000 in
theorem l_copy_out {G : eG} {ad : Nat → Nat} {s : St} {z : Zc} {hm : Nat → va_E} (a t : Nat) (c1 c2 : Option Value) (ha : a < 6) (ht : t < 6) (hI : Inv s) (hsw : s_w s a = s_w s t) (hsh : s_h s a = s_h s t) (hla : s_lane s a = s_lane s t) (hz : ∀ k, k < 400 → (s_w s t ≤ k % 20 ∨ s_h s t ≤ k / 20) → (s_ct s a) k = s_ct s t k) : ∀ (n y : Nat) (h : Nat → va_E) (v : Option Value), y + n = s_h s t → CW G ad (S_ct s (va_up (s_ct s) t (cpF (s_ct s a) (s_ct s t) (s_w s t) y 0))) z hm h → EV G M_X4_copy cX4_copy none ad 54 (PC G ad hm (.int 1) (S_ct s (va_up (s_ct s) t (fun k => if k < 400 then (s_ct s a) k else s_ct s t k)))) 82 [some (.ref (ad 0)), c1, c2, some (.ref (ad (10 + 2 * a))), some (.ref (ad (10 + 2 * t))), some (.int (nI y)), v] [] h := by
  have hd := hI.1 t ht
  intro n
  induction n with
  | zero =>
    intro y h v hy hw
    have e : y = s_h s t := by omega
    subst e
    rw [cpF_end hd.2.1 hz] at hw
    refine EV.iload (pc := 82) dX4_copy_82 rfl ?_
    refine EV.aload (pc := 84) dX4_copy_84 rfl ?_
    refine EV.getf (pc := 86) dX4_copy_86 fgX4_90 (show 10 + 2 * t < 54 by omega) (hw.pl' ht) rfl ?_
    refine EV.icmp_ge (pc := 89) (tgt := 134) dX4_copy_89 (by decide) (fun _ => ?_) (fun q => absurd ((nI_leI (a := s_h s t) (b := s_h s t) (by omega) (by omega)).mpr (Nat.le_refl _)) q)
    refine EV.iconst (pc := 134) (v := 1) dX4_copy_134 (by decide) ?_
    exact EV.iret (pc := 135) dX4_copy_135 trivial ⟨rfl, z, hw⟩
  | succ n ih =>
    intro y h v hy hw
    refine EV.iload (pc := 82) dX4_copy_82 rfl ?_
    refine EV.aload (pc := 84) dX4_copy_84 rfl ?_
    refine EV.getf (pc := 86) dX4_copy_86 fgX4_90 (show 10 + 2 * t < 54 by omega) (hw.pl' ht) rfl ?_
    refine EV.icmp_ge (pc := 89) (tgt := 134) dX4_copy_89 (by decide) (fun q => absurd q (fun z => absurd ((nI_leI (a := s_h s t) (b := y) (by omega) (by omega)).mp z) (by omega))) (fun _ => ?_)
    refine EV.iconst (pc := 92) (v := 0) dX4_copy_92 (by decide) ?_
    refine EV.istore (pc := 93) dX4_copy_93 (by decide) (by dsimp only [lst1, lk] <;> rfl) ?_
    refine l_copy_in a t c1 c2 ha ht hI hsw hsh hla y (by omega) _ (fun h v hw => ?_) (s_w s t) 0 h (by omega) hw
    refine EV.iinc (pc := 128) dX4_copy_128 (by decide) rfl (by first | exact nI_inc _ | rfl) (by dsimp only [lst1, lk] <;> rfl) ?_
    refine EV.goto (pc := 131) (tgt := 82) dX4_copy_131 (by decide) ?_
    exact ih (y + 1) h _ (by omega) (by rw [← cpF_row]; exact hw)

set_option maxHeartbeats 4000000 in
set_option maxRecDepth 100000 in
theorem p_copy {G : eG} {ad : Nat → Nat} {h : Nat → va_E} {s : St} {z : Zc} {hm : Nat → va_E} (hw : CW G ad s z hm h) (hI : Inv s) (p q : Int32)  : MC G M_X4_copy cX4_copy ad 54 [.ref (ad 0), .int p, .int q] h (PC G ad hm (.int (f_copy s p q).1) (f_copy s p q).2) := by
  by_cases hpa : 0 ≤ p.toInt ∧ p.toInt ≤ 5
  · obtain ⟨a, rfl, ea, la⟩ := i_nat hpa.1
    have ha : a < 6 := by omega
    have hda := hI.1 a ha
    by_cases hpt : 0 ≤ q.toInt ∧ q.toInt ≤ 5
    · obtain ⟨t, rfl, et, lt⟩ := i_nat hpt.1
      have ht : t < 6 := by omega
      have hdt := hI.1 t ht
      have e0 : f_copy s (nI a) (nI t) = g_copy s a t := by unfold f_copy; rw [if_pos ⟨hpa, hpt⟩, nI_tn (by omega), nI_tn (by omega)]
      rw [e0]
      have en1 := nI_t (show s_lane s a < 2147483648 by omega)
      have en2 := nI_t (show s_lane s t < 2147483648 by omega)
      refine MC.of (by decide +kernel) (Nat.le_of_ble_eq_true rfl) (by dsimp only [linit, Nat.reduceSub, List.reduceReplicate] <;> rfl) ?_
      refine EV.aload_n (pc := 0) dX4_copy_0 rfl ?_
      refine EV.iload_n (pc := 1) dX4_copy_1 rfl ?_
      refine EV.callVR1 (pc := 2) (M' := M_X4_plateOf) dX4_copy_2 lkX4_55 okV_X4_plateOf (m_plateOf a hw ha) (by decide) rfl rfl (Nat.le_of_ble_eq_true rfl) (by decide) hw.h0 ?_
      refine EV.astore_n (pc := 5) 3 dX4_copy_5 rfl (by decide) (by dsimp only [lst1, lk] <;> rfl) ?_
      refine EV.aload_n (pc := 6) dX4_copy_6 rfl ?_
      refine EV.iload_n (pc := 7) dX4_copy_7 rfl ?_
      refine EV.callVR1 (pc := 8) (M' := M_X4_plateOf) dX4_copy_8 lkX4_55 okV_X4_plateOf (m_plateOf t hw ht) (by decide) rfl rfl (Nat.le_of_ble_eq_true rfl) (by decide) hw.h0 ?_
      refine EV.astore (pc := 11) dX4_copy_11 (by decide) (by dsimp only [lst1, lk] <;> rfl) ?_
      refine EV.aload_n (pc := 13) dX4_copy_13 rfl ?_
      refine EV.ifnull (pc := 14) dX4_copy_14 ?_
      refine EV.aload (pc := 17) dX4_copy_17 rfl ?_
      refine EV.ifnonnull (pc := 19) (tgt := 25) dX4_copy_19 (by decide) ?_
      refine EV.aload_n (pc := 25) dX4_copy_25 rfl ?_
      refine EV.getf (pc := 26) dX4_copy_26 fgX4_71 (show 10 + 2 * a < 54 by omega) (hw.pl' ha) rfl ?_
      refine EV.if_ne (pc := 29) (tgt := 40) dX4_copy_29 (by decide) (fun c29 => ?_) (fun c29 => ?_)
      · replace c29 := b2i_ne c29
        refine EV.aload_n (pc := 40) dX4_copy_40 rfl ?_
        refine EV.iconst (pc := 41) (v := 1) dX4_copy_41 (by decide) ?_
        refine EV.callVPi (pc := 42) (M' := M_X4_caused) dX4_copy_42 lkX4_63 okV_X4_caused (m_caused 1 hw (by omega)) (by decide) rfl rfl (Nat.le_of_ble_eq_true rfl) (by decide) hw.h0 (fun h hw => ?_)
        refine EV.topi (y := -11) (by decide +kernel) ?_
        refine EV.iret (pc := 45) dX4_copy_45 trivial ?_
        exact PC.i (by unfold g_copy; rw [if_pos (by first | exact Or.inl c29 | exact Or.inr c37)]) hw
      · replace c29 := b2i_eq c29
        refine EV.aload (pc := 32) dX4_copy_32 rfl ?_
        refine EV.getf (pc := 34) dX4_copy_34 fgX4_71 (show 10 + 2 * t < 54 by omega) (hw.pl' ht) rfl ?_
        refine EV.if_eq (pc := 37) (tgt := 46) dX4_copy_37 (by decide) (fun c37 => ?_) (fun c37 => ?_)
        · replace c37 := b2i_eq c37
          refine EV.aload_n (pc := 46) dX4_copy_46 rfl ?_
          refine EV.getf (pc := 47) dX4_copy_47 fgX4_75 (show 10 + 2 * a < 54 by omega) (hw.pl' ha) rfl ?_
          refine EV.aload (pc := 50) dX4_copy_50 rfl ?_
          refine EV.getf (pc := 52) dX4_copy_52 fgX4_75 (show 10 + 2 * t < 54 by omega) (hw.pl' ht) rfl ?_
          refine EV.icmp_eq (pc := 55) (tgt := 64) dX4_copy_55 (by decide) (fun c55 => ?_) (fun c55 => ?_)
          · try simp only [Int32.lt_iff_toInt_lt, Int32.le_iff_toInt_le, ← Int32.toInt_inj, Int64.lt_iff_toInt_lt, Int64.le_iff_toInt_le, ← Int64.toInt_inj, Int32.toInt_toInt64, i_l0, i_l1, i_l2, i_l5, i_l19, i_m1, j_l0, j_l1, j_l5, i_l3, i_l4, i_l6, i_l7, i_l8, i_l9, i_l12, i_l16, i_l20, i_l60, i_l64, i_l100, i_l200, i_l304, i_l2000, i_l10000, i_l100000, i_l1000000, i_n1000000, i_n19, i_n101, en1, en2] at c55
            refine EV.aload_n (pc := 64) dX4_copy_64 rfl ?_
            refine EV.aload (pc := 65) dX4_copy_65 rfl ?_
            refine EV.callVR1 (pc := 67) (M' := M_X2_alike) dX4_copy_67 lkX4_86 okV_X2_alike (m_alike (10 + 2 * a) (10 + 2 * t) (b2i (s_lost s a)) (b2i (s_lost s t)) (s_lane s a) (s_w s a) (s_h s a) (s_lane s t) (s_w s t) (s_h s t) _ _ (by omega) (by omega) hda.1 hda.2.1 hdt.1 hdt.2.1 (hw.pl' ha) (hw.pl' ht)) (by decide) rfl rfl (Nat.le_of_ble_eq_true rfl) (show 10 + 2 * a < 54 by omega) (hw.pl' ha) ?_
            refine EV.if_ne (pc := 70) (tgt := 79) dX4_copy_70 (by decide) (fun c70 => ?_) (fun c70 => ?_)
            · replace c70 := b2i_T c70
              try simp only [Int32.lt_iff_toInt_lt, Int32.le_iff_toInt_le, ← Int32.toInt_inj, Int64.lt_iff_toInt_lt, Int64.le_iff_toInt_le, ← Int64.toInt_inj, Int32.toInt_toInt64, i_l0, i_l1, i_l2, i_l5, i_l19, i_m1, j_l0, j_l1, j_l5, i_l3, i_l4, i_l6, i_l7, i_l8, i_l9, i_l12, i_l16, i_l20, i_l60, i_l64, i_l100, i_l200, i_l304, i_l2000, i_l10000, i_l100000, i_l1000000, i_n1000000, i_n19, i_n101, en1, en2] at c70
              refine EV.iconst (pc := 79) (v := 0) dX4_copy_79 (by decide) ?_
              refine EV.istore (pc := 80) dX4_copy_80 (by decide) (by dsimp only [lst1, lk] <;> rfl) ?_
              have e1 : g_copy s a t = (1, S_ct s (va_up (s_ct s) t (fun k => if k < 400 then s_ct s a k else s_ct s t k))) := by unfold g_copy; rw [if_neg (by simp [c29, c37]), if_pos (by omega), if_pos c70]
              rw [e1]
              exact l_copy_out a t _ _ ha ht hI c70.1 c70.2 (by omega) (fun k hk hz => by rw [hI.2.1 t ht k hk hz]; exact hI.2.1 a ha k hk (by rw [c70.1, c70.2]; exact hz)) (s_h s t) 0 h none (by omega) (by rw [cpF_0, ct_id]; exact hw)
            · replace c70 := b2i_F c70
              try simp only [Int32.lt_iff_toInt_lt, Int32.le_iff_toInt_le, ← Int32.toInt_inj, Int64.lt_iff_toInt_lt, Int64.le_iff_toInt_le, ← Int64.toInt_inj, Int32.toInt_toInt64, i_l0, i_l1, i_l2, i_l5, i_l19, i_m1, j_l0, j_l1, j_l5, i_l3, i_l4, i_l6, i_l7, i_l8, i_l9, i_l12, i_l16, i_l20, i_l60, i_l64, i_l100, i_l200, i_l304, i_l2000, i_l10000, i_l100000, i_l1000000, i_n1000000, i_n19, i_n101, en1, en2] at c70
              refine EV.aload_n (pc := 73) dX4_copy_73 rfl ?_
              refine EV.iconst (pc := 74) (v := 5) dX4_copy_74 (by decide) ?_
              refine EV.callVPi (pc := 75) (M' := M_X4_caused) dX4_copy_75 lkX4_63 okV_X4_caused (m_caused 5 hw (by omega)) (by decide) rfl rfl (Nat.le_of_ble_eq_true rfl) (by decide) hw.h0 (fun h hw => ?_)
              refine EV.topi (y := -15) (by decide +kernel) ?_
              refine EV.iret (pc := 78) dX4_copy_78 trivial ?_
              exact PC.i (by unfold g_copy; rw [if_neg (by simp [c29, c37]), if_pos (by omega), if_neg c70]) hw
          · try simp only [Int32.lt_iff_toInt_lt, Int32.le_iff_toInt_le, ← Int32.toInt_inj, Int64.lt_iff_toInt_lt, Int64.le_iff_toInt_le, ← Int64.toInt_inj, Int32.toInt_toInt64, i_l0, i_l1, i_l2, i_l5, i_l19, i_m1, j_l0, j_l1, j_l5, i_l3, i_l4, i_l6, i_l7, i_l8, i_l9, i_l12, i_l16, i_l20, i_l60, i_l64, i_l100, i_l200, i_l304, i_l2000, i_l10000, i_l100000, i_l1000000, i_n1000000, i_n19, i_n101, en1, en2] at c55
            refine EV.aload_n (pc := 58) dX4_copy_58 rfl ?_
            refine EV.iconst (pc := 59) (v := 4) dX4_copy_59 (by decide) ?_
            refine EV.callVPi (pc := 60) (M' := M_X4_caused) dX4_copy_60 lkX4_63 okV_X4_caused (m_caused 4 hw (by omega)) (by decide) rfl rfl (Nat.le_of_ble_eq_true rfl) (by decide) hw.h0 (fun h hw => ?_)
            refine EV.topi (y := -14) (by decide +kernel) ?_
            refine EV.iret (pc := 63) dX4_copy_63 trivial ?_
            exact PC.i (by unfold g_copy; rw [if_neg (by simp [c29, c37]), if_neg (by omega)]) hw
        · replace c37 := b2i_ne c37
          refine EV.aload_n (pc := 40) dX4_copy_40 rfl ?_
          refine EV.iconst (pc := 41) (v := 1) dX4_copy_41 (by decide) ?_
          refine EV.callVPi (pc := 42) (M' := M_X4_caused) dX4_copy_42 lkX4_63 okV_X4_caused (m_caused 1 hw (by omega)) (by decide) rfl rfl (Nat.le_of_ble_eq_true rfl) (by decide) hw.h0 (fun h hw => ?_)
          refine EV.topi (y := -11) (by decide +kernel) ?_
          refine EV.iret (pc := 45) dX4_copy_45 trivial ?_
          exact PC.i (by unfold g_copy; rw [if_pos (by first | exact Or.inl c29 | exact Or.inr c37)]) hw
    · have e0 : f_copy s (nI a) q = (-101, s) := by unfold f_copy; rw [if_neg (fun q => hpt q.2)]
      rw [e0]
      refine MC.of (by decide +kernel) (Nat.le_of_ble_eq_true rfl) (by dsimp only [linit, Nat.reduceSub, List.reduceReplicate] <;> rfl) ?_
      refine EV.aload_n (pc := 0) dX4_copy_0 rfl ?_
      refine EV.iload_n (pc := 1) dX4_copy_1 rfl ?_
      refine EV.callVR1 (pc := 2) (M' := M_X4_plateOf) dX4_copy_2 lkX4_55 okV_X4_plateOf (m_plateOf a hw ha) (by decide) rfl rfl (Nat.le_of_ble_eq_true rfl) (by decide) hw.h0 ?_
      refine EV.astore_n (pc := 5) 3 dX4_copy_5 rfl (by decide) (by dsimp only [lst1, lk] <;> rfl) ?_
      refine EV.aload_n (pc := 6) dX4_copy_6 rfl ?_
      refine EV.iload_n (pc := 7) dX4_copy_7 rfl ?_
      refine EV.callVR1 (pc := 8) (M' := M_X4_plateOf) dX4_copy_8 lkX4_55 okV_X4_plateOf (m_plateOfN q hw hpt) (by decide) rfl rfl (Nat.le_of_ble_eq_true rfl) (by decide) hw.h0 ?_
      refine EV.astoreN (pc := 11) dX4_copy_11 (by decide) (by dsimp only [lst1, lk] <;> rfl) ?_
      refine EV.aload_n (pc := 13) dX4_copy_13 rfl ?_
      refine EV.ifnull (pc := 14) dX4_copy_14 ?_
      refine EV.aloadN (pc := 17) dX4_copy_17 rfl ?_
      refine EV.ifnonnullN (pc := 19) dX4_copy_19 ?_
      refine EV.bipush (pc := 22) (v := -101) dX4_copy_22 (by decide) ?_
      exact EV.iret (pc := 24) dX4_copy_24 trivial ⟨rfl, z, hw⟩
  · by_cases hpt : 0 ≤ q.toInt ∧ q.toInt ≤ 5
    · obtain ⟨t, rfl, et, lt⟩ := i_nat hpt.1
      have ht : t < 6 := by omega
      have hdt := hI.1 t ht
      have e0 : f_copy s p (nI t) = (-101, s) := by unfold f_copy; rw [if_neg (fun q => hpa q.1)]
      rw [e0]
      refine MC.of (by decide +kernel) (Nat.le_of_ble_eq_true rfl) (by dsimp only [linit, Nat.reduceSub, List.reduceReplicate] <;> rfl) ?_
      refine EV.aload_n (pc := 0) dX4_copy_0 rfl ?_
      refine EV.iload_n (pc := 1) dX4_copy_1 rfl ?_
      refine EV.callVR1 (pc := 2) (M' := M_X4_plateOf) dX4_copy_2 lkX4_55 okV_X4_plateOf (m_plateOfN p hw hpa) (by decide) rfl rfl (Nat.le_of_ble_eq_true rfl) (by decide) hw.h0 ?_
      refine EV.astoreN_n (pc := 5) 3 dX4_copy_5 rfl (by decide) (by dsimp only [lst1, lk] <;> rfl) ?_
      refine EV.aload_n (pc := 6) dX4_copy_6 rfl ?_
      refine EV.iload_n (pc := 7) dX4_copy_7 rfl ?_
      refine EV.callVR1 (pc := 8) (M' := M_X4_plateOf) dX4_copy_8 lkX4_55 okV_X4_plateOf (m_plateOf t hw ht) (by decide) rfl rfl (Nat.le_of_ble_eq_true rfl) (by decide) hw.h0 ?_
      refine EV.astore (pc := 11) dX4_copy_11 (by decide) (by dsimp only [lst1, lk] <;> rfl) ?_
      refine EV.aloadN_n (pc := 13) dX4_copy_13 rfl ?_
      refine EV.ifnullN (pc := 14) (tgt := 22) dX4_copy_14 (by decide) ?_
      refine EV.bipush (pc := 22) (v := -101) dX4_copy_22 (by decide) ?_
      exact EV.iret (pc := 24) dX4_copy_24 trivial ⟨rfl, z, hw⟩
    · have e0 : f_copy s p q = (-101, s) := by unfold f_copy; rw [if_neg (fun q => hpa q.1)]
      rw [e0]
      refine MC.of (by decide +kernel) (Nat.le_of_ble_eq_true rfl) (by dsimp only [linit, Nat.reduceSub, List.reduceReplicate] <;> rfl) ?_
      refine EV.aload_n (pc := 0) dX4_copy_0 rfl ?_
      refine EV.iload_n (pc := 1) dX4_copy_1 rfl ?_
      refine EV.callVR1 (pc := 2) (M' := M_X4_plateOf) dX4_copy_2 lkX4_55 okV_X4_plateOf (m_plateOfN p hw hpa) (by decide) rfl rfl (Nat.le_of_ble_eq_true rfl) (by decide) hw.h0 ?_
      refine EV.astoreN_n (pc := 5) 3 dX4_copy_5 rfl (by decide) (by dsimp only [lst1, lk] <;> rfl) ?_
      refine EV.aload_n (pc := 6) dX4_copy_6 rfl ?_
      refine EV.iload_n (pc := 7) dX4_copy_7 rfl ?_
      refine EV.callVR1 (pc := 8) (M' := M_X4_plateOf) dX4_copy_8 lkX4_55 okV_X4_plateOf (m_plateOfN q hw hpt) (by decide) rfl rfl (Nat.le_of_ble_eq_true rfl) (by decide) hw.h0 ?_
      refine EV.astoreN (pc := 11) dX4_copy_11 (by decide) (by dsimp only [lst1, lk] <;> rfl) ?_
      refine EV.aloadN_n (pc := 13) dX4_copy_13 rfl ?_
      refine EV.ifnullN (pc := 14) (tgt := 22) dX4_copy_14 (by decide) ?_
      refine EV.bipush (pc := 22) (v := -101) dX4_copy_22 (by decide) ?_
      exact EV.iret (pc := 24) dX4_copy_24 trivial ⟨rfl, z, hw⟩

set_option maxHeartbeats 4000000 in
set_option maxRecDepth 100000 in
theorem l_less_in {G : eG} {ad : Nat → Nat} {s : St} {z : Zc} {hm : Nat → va_E} (a t : Nat) (c1 c2 : Option Value) (ha : a < 6) (ht : t < 6) (hI : Inv s) (hsw : s_w s a = s_w s t) (hsh : s_h s a = s_h s t) (y : Nat) (hy : y < s_h s t) (post : eP) (kx : ∀ (h : Nat → va_E) (v : Option Value), CW G ad (S_ct s (va_up (s_ct s) t (cpF (fun k => iCast (s_ct s t k - s_ct s a k) (nI (s_lane s t))) (s_ct s t) (s_w s t) y (s_w s t)))) z hm h → EV G M_X4_less cX4_less none ad 54 post 120 [some (.ref (ad 0)), c1, c2, some (.ref (ad (10 + 2 * a))), some (.ref (ad (10 + 2 * t))), some (.int (nI y)), v] [] h) : ∀ (n x : Nat) (h : Nat → va_E), x + n = s_w s t → CW G ad (S_ct s (va_up (s_ct s) t (cpF (fun k => iCast (s_ct s t k - s_ct s a k) (nI (s_lane s t))) (s_ct s t) (s_w s t) y x))) z hm h → EV G M_X4_less cX4_less none ad 54 post 77 [some (.ref (ad 0)), c1, c2, some (.ref (ad (10 + 2 * a))), some (.ref (ad (10 + 2 * t))), some (.int (nI y)), some (.int (nI x))] [] h := by
  have hd := hI.1 t ht
  intro n
  induction n with
  | zero =>
    intro x h hx hw
    have e : x = s_w s t := by omega
    subst e
    refine EV.iload (pc := 77) dX4_less_77 rfl ?_
    refine EV.aload (pc := 79) dX4_less_79 rfl ?_
    refine EV.getf (pc := 81) dX4_less_81 fgX4_93 (show 10 + 2 * t < 54 by omega) (hw.pl' ht) rfl ?_
    refine EV.icmp_ge (pc := 84) (tgt := 120) dX4_less_84 (by decide) (fun _ => ?_) (fun q => absurd ((nI_leI (a := s_w s t) (b := s_w s t) (by omega) (by omega)).mpr (Nat.le_refl _)) q)
    exact kx h _ hw
  | succ n ih =>
    intro x h hx hw
    refine EV.iload (pc := 77) dX4_less_77 rfl ?_
    refine EV.aload (pc := 79) dX4_less_79 rfl ?_
    refine EV.getf (pc := 81) dX4_less_81 fgX4_93 (show 10 + 2 * t < 54 by omega) (hw.pl' ht) rfl ?_
    refine EV.icmp_ge (pc := 84) (tgt := 120) dX4_less_84 (by decide) (fun q => absurd q (fun z => absurd ((nI_leI (a := s_w s t) (b := x) (by omega) (by omega)).mp z) (by omega))) (fun _ => ?_)
    refine EV.aload (pc := 87) dX4_less_87 rfl ?_
    refine EV.iload (pc := 89) dX4_less_89 rfl ?_
    refine EV.iload (pc := 91) dX4_less_91 rfl ?_
    refine EV.aload (pc := 93) dX4_less_93 rfl ?_
    refine EV.iload (pc := 95) dX4_less_95 rfl ?_
    refine EV.iload (pc := 97) dX4_less_97 rfl ?_
    refine EV.callVR1 (pc := 99) (M' := M_X2_at) dX4_less_99 lkX4_96 okV_X2_at (m_pat (10 + 2 * t) (11 + 2 * t) (b2i (s_lost s t)) (s_lane s t) (s_w s t) (s_h s t) (va_up (s_ct s) t (cpF (fun k => iCast (s_ct s t k - s_ct s a k) (nI (s_lane s t))) (s_ct s t) (s_w s t) y x) t) _ _ (by omega) (by omega) hd.1 hd.2.1 (hw.pl' ht) (hw.ct t ht)) (by decide) rfl rfl (Nat.le_of_ble_eq_true rfl) (show 10 + 2 * t < 54 by omega) (hw.pl' ht) ?_
    refine EV.topi (y := s_ct s t (y * 20 + x)) (by rw [pAt_n (by omega) hy hd.1 hd.2.1, ct_rd (by omega)]) ?_
    refine EV.aload_n (pc := 102) dX4_less_102 rfl ?_
    refine EV.iload (pc := 103) dX4_less_103 rfl ?_
    refine EV.iload (pc := 105) dX4_less_105 rfl ?_
    refine EV.callVR1 (pc := 107) (M' := M_X2_at) dX4_less_107 lkX4_96 okV_X2_at (m_pat (10 + 2 * a) (11 + 2 * a) (b2i (s_lost s a)) (s_lane s a) (s_w s t) (s_h s t) (va_up (s_ct s) t (cpF (fun k => iCast (s_ct s t k - s_ct s a k) (nI (s_lane s t))) (s_ct s t) (s_w s t) y x) a) _ _ (by omega) (by omega) hd.1 hd.2.1 (by rw [← hsw, ← hsh]; exact hw.pl' ha) (hw.ct a ha)) (by decide) rfl rfl (Nat.le_of_ble_eq_true rfl) (show 10 + 2 * a < 54 by omega) (hw.pl' ha) ?_
    refine EV.topi (y := s_ct s a (y * 20 + x)) (by rw [pAt_n (by omega) hy hd.1 hd.2.1, ct_rd (by omega)]) ?_
    refine EV.isub (pc := 110) dX4_less_110 ?_
    refine EV.callVR0 (pc := 111) (M' := M_X2_set) dX4_less_111 lkX4_83 okV_X2_set (m_pset (10 + 2 * t) (11 + 2 * t) (b2i (s_lost s t)) (s_lane s t) (s_w s t) (s_h s t) (va_up (s_ct s) t (cpF (fun k => iCast (s_ct s t k - s_ct s a k) (nI (s_lane s t))) (s_ct s t) (s_w s t) y x) t) (nI x) (nI y) _ (by omega) (by omega) hd.1 hd.2.1 (hw.pl' ht) (hw.ct t ht) (by rw [nI_t (by omega), nI_t (by omega)]; omega)) (by decide) rfl rfl (Nat.le_of_ble_eq_true rfl) (show 10 + 2 * t < 54 by omega) (hw.pl' ht) ?_
    refine EV.abs (Pr := CW G ad (S_ct s (va_up (s_ct s) t (cpF (fun k => iCast (s_ct s t k - s_ct s a k) (nI (s_lane s t))) (s_ct s t) (s_w s t) y (x + 1)))) z hm) (by
      have q := hw.set_ct t (cpF (fun k => iCast (s_ct s t k - s_ct s a k) (nI (s_lane s t))) (s_ct s t) (s_w s t) y (x + 1)) ht
      rw [ct_ct] at q
      rw [va_up_s, nI_tn (by omega), nI_tn (by omega), show iCast (s_ct s t (y * 20 + x) - s_ct s a (y * 20 + x)) (nI (s_lane s t)) = (fun k => iCast (s_ct s t k - s_ct s a k) (nI (s_lane s t))) (y * 20 + x) from rfl, cpF_set (by omega) hd.1 (by omega)]
      exact q) (fun h hw => ?_)
    refine EV.iinc (pc := 114) dX4_less_114 (by decide) rfl (by first | exact nI_inc _ | rfl) (by dsimp only [lst1, lk] <;> rfl) ?_
    refine EV.goto (pc := 117) (tgt := 77) dX4_less_117 (by decide) ?_
    exact ih (x + 1) h (by omega) hw

set_option maxHeartbeats 4000000 in
set_option maxRecDepth 100000 in
theorem l_less_out {G : eG} {ad : Nat → Nat} {s : St} {z : Zc} {hm : Nat → va_E} (a t : Nat) (c1 c2 : Option Value) (ha : a < 6) (ht : t < 6) (hI : Inv s) (hsw : s_w s a = s_w s t) (hsh : s_h s a = s_h s t) (hz : ∀ k, k < 400 → (s_w s t ≤ k % 20 ∨ s_h s t ≤ k / 20) → (fun k => iCast (s_ct s t k - s_ct s a k) (nI (s_lane s t))) k = s_ct s t k) : ∀ (n y : Nat) (h : Nat → va_E) (v : Option Value), y + n = s_h s t → CW G ad (S_ct s (va_up (s_ct s) t (cpF (fun k => iCast (s_ct s t k - s_ct s a k) (nI (s_lane s t))) (s_ct s t) (s_w s t) y 0))) z hm h → EV G M_X4_less cX4_less none ad 54 (PC G ad hm (.int 1) (S_ct s (va_up (s_ct s) t (fun k => if k < 400 then (fun k => iCast (s_ct s t k - s_ct s a k) (nI (s_lane s t))) k else s_ct s t k)))) 64 [some (.ref (ad 0)), c1, c2, some (.ref (ad (10 + 2 * a))), some (.ref (ad (10 + 2 * t))), some (.int (nI y)), v] [] h := by
  have hd := hI.1 t ht
  intro n
  induction n with
  | zero =>
    intro y h v hy hw
    have e : y = s_h s t := by omega
    subst e
    rw [cpF_end hd.2.1 hz] at hw
    refine EV.iload (pc := 64) dX4_less_64 rfl ?_
    refine EV.aload (pc := 66) dX4_less_66 rfl ?_
    refine EV.getf (pc := 68) dX4_less_68 fgX4_90 (show 10 + 2 * t < 54 by omega) (hw.pl' ht) rfl ?_
    refine EV.icmp_ge (pc := 71) (tgt := 126) dX4_less_71 (by decide) (fun _ => ?_) (fun q => absurd ((nI_leI (a := s_h s t) (b := s_h s t) (by omega) (by omega)).mpr (Nat.le_refl _)) q)
    refine EV.iconst (pc := 126) (v := 1) dX4_less_126 (by decide) ?_
    exact EV.iret (pc := 127) dX4_less_127 trivial ⟨rfl, z, hw⟩
  | succ n ih =>
    intro y h v hy hw
    refine EV.iload (pc := 64) dX4_less_64 rfl ?_
    refine EV.aload (pc := 66) dX4_less_66 rfl ?_
    refine EV.getf (pc := 68) dX4_less_68 fgX4_90 (show 10 + 2 * t < 54 by omega) (hw.pl' ht) rfl ?_
    refine EV.icmp_ge (pc := 71) (tgt := 126) dX4_less_71 (by decide) (fun q => absurd q (fun z => absurd ((nI_leI (a := s_h s t) (b := y) (by omega) (by omega)).mp z) (by omega))) (fun _ => ?_)
    refine EV.iconst (pc := 74) (v := 0) dX4_less_74 (by decide) ?_
    refine EV.istore (pc := 75) dX4_less_75 (by decide) (by dsimp only [lst1, lk] <;> rfl) ?_
    refine l_less_in a t c1 c2 ha ht hI hsw hsh y (by omega) _ (fun h v hw => ?_) (s_w s t) 0 h (by omega) hw
    refine EV.iinc (pc := 120) dX4_less_120 (by decide) rfl (by first | exact nI_inc _ | rfl) (by dsimp only [lst1, lk] <;> rfl) ?_
    refine EV.goto (pc := 123) (tgt := 64) dX4_less_123 (by decide) ?_
    exact ih (y + 1) h _ (by omega) (by rw [← cpF_row]; exact hw)

set_option maxHeartbeats 4000000 in
set_option maxRecDepth 100000 in
theorem p_less {G : eG} {ad : Nat → Nat} {h : Nat → va_E} {s : St} {z : Zc} {hm : Nat → va_E} (hw : CW G ad s z hm h) (hI : Inv s) (p q : Int32)  : MC G M_X4_less cX4_less ad 54 [.ref (ad 0), .int p, .int q] h (PC G ad hm (.int (f_less s p q).1) (f_less s p q).2) := by
  by_cases hpa : 0 ≤ p.toInt ∧ p.toInt ≤ 5
  · obtain ⟨a, rfl, ea, la⟩ := i_nat hpa.1
    have ha : a < 6 := by omega
    have hda := hI.1 a ha
    by_cases hpt : 0 ≤ q.toInt ∧ q.toInt ≤ 5
    · obtain ⟨t, rfl, et, lt⟩ := i_nat hpt.1
      have ht : t < 6 := by omega
      have hdt := hI.1 t ht
      have e0 : f_less s (nI a) (nI t) = g_less s a t := by unfold f_less; rw [if_pos ⟨hpa, hpt⟩, nI_tn (by omega), nI_tn (by omega)]
      rw [e0]
      have en1 := nI_t (show s_lane s a < 2147483648 by omega)
      have en2 := nI_t (show s_lane s t < 2147483648 by omega)
      refine MC.of (by decide +kernel) (Nat.le_of_ble_eq_true rfl) (by dsimp only [linit, Nat.reduceSub, List.reduceReplicate] <;> rfl) ?_
      refine EV.aload_n (pc := 0) dX4_less_0 rfl ?_
      refine EV.iload_n (pc := 1) dX4_less_1 rfl ?_
      refine EV.callVR1 (pc := 2) (M' := M_X4_plateOf) dX4_less_2 lkX4_55 okV_X4_plateOf (m_plateOf a hw ha) (by decide) rfl rfl (Nat.le_of_ble_eq_true rfl) (by decide) hw.h0 ?_
      refine EV.astore_n (pc := 5) 3 dX4_less_5 rfl (by decide) (by dsimp only [lst1, lk] <;> rfl) ?_
      refine EV.aload_n (pc := 6) dX4_less_6 rfl ?_
      refine EV.iload_n (pc := 7) dX4_less_7 rfl ?_
      refine EV.callVR1 (pc := 8) (M' := M_X4_plateOf) dX4_less_8 lkX4_55 okV_X4_plateOf (m_plateOf t hw ht) (by decide) rfl rfl (Nat.le_of_ble_eq_true rfl) (by decide) hw.h0 ?_
      refine EV.astore (pc := 11) dX4_less_11 (by decide) (by dsimp only [lst1, lk] <;> rfl) ?_
      refine EV.aload_n (pc := 13) dX4_less_13 rfl ?_
      refine EV.ifnull (pc := 14) dX4_less_14 ?_
      refine EV.aload (pc := 17) dX4_less_17 rfl ?_
      refine EV.ifnonnull (pc := 19) (tgt := 25) dX4_less_19 (by decide) ?_
      refine EV.aload_n (pc := 25) dX4_less_25 rfl ?_
      refine EV.getf (pc := 26) dX4_less_26 fgX4_71 (show 10 + 2 * a < 54 by omega) (hw.pl' ha) rfl ?_
      refine EV.if_ne (pc := 29) (tgt := 40) dX4_less_29 (by decide) (fun c29 => ?_) (fun c29 => ?_)
      · replace c29 := b2i_ne c29
        refine EV.aload_n (pc := 40) dX4_less_40 rfl ?_
        refine EV.iconst (pc := 41) (v := 1) dX4_less_41 (by decide) ?_
        refine EV.callVPi (pc := 42) (M' := M_X4_caused) dX4_less_42 lkX4_63 okV_X4_caused (m_caused 1 hw (by omega)) (by decide) rfl rfl (Nat.le_of_ble_eq_true rfl) (by decide) hw.h0 (fun h hw => ?_)
        refine EV.topi (y := -11) (by decide +kernel) ?_
        refine EV.iret (pc := 45) dX4_less_45 trivial ?_
        exact PC.i (by unfold g_less; rw [if_pos (by first | exact Or.inl c29 | exact Or.inr c37)]) hw
      · replace c29 := b2i_eq c29
        refine EV.aload (pc := 32) dX4_less_32 rfl ?_
        refine EV.getf (pc := 34) dX4_less_34 fgX4_71 (show 10 + 2 * t < 54 by omega) (hw.pl' ht) rfl ?_
        refine EV.if_eq (pc := 37) (tgt := 46) dX4_less_37 (by decide) (fun c37 => ?_) (fun c37 => ?_)
        · replace c37 := b2i_eq c37
          refine EV.aload_n (pc := 46) dX4_less_46 rfl ?_
          refine EV.aload (pc := 47) dX4_less_47 rfl ?_
          refine EV.callVR1 (pc := 49) (M' := M_X2_alike) dX4_less_49 lkX4_86 okV_X2_alike (m_alike (10 + 2 * a) (10 + 2 * t) (b2i (s_lost s a)) (b2i (s_lost s t)) (s_lane s a) (s_w s a) (s_h s a) (s_lane s t) (s_w s t) (s_h s t) _ _ (by omega) (by omega) hda.1 hda.2.1 hdt.1 hdt.2.1 (hw.pl' ha) (hw.pl' ht)) (by decide) rfl rfl (Nat.le_of_ble_eq_true rfl) (show 10 + 2 * a < 54 by omega) (hw.pl' ha) ?_
          refine EV.if_ne (pc := 52) (tgt := 61) dX4_less_52 (by decide) (fun c52 => ?_) (fun c52 => ?_)
          · replace c52 := b2i_T c52
            try simp only [Int32.lt_iff_toInt_lt, Int32.le_iff_toInt_le, ← Int32.toInt_inj, Int64.lt_iff_toInt_lt, Int64.le_iff_toInt_le, ← Int64.toInt_inj, Int32.toInt_toInt64, i_l0, i_l1, i_l2, i_l5, i_l19, i_m1, j_l0, j_l1, j_l5, i_l3, i_l4, i_l6, i_l7, i_l8, i_l9, i_l12, i_l16, i_l20, i_l60, i_l64, i_l100, i_l200, i_l304, i_l2000, i_l10000, i_l100000, i_l1000000, i_n1000000, i_n19, i_n101, en1, en2] at c52
            refine EV.iconst (pc := 61) (v := 0) dX4_less_61 (by decide) ?_
            refine EV.istore (pc := 62) dX4_less_62 (by decide) (by dsimp only [lst1, lk] <;> rfl) ?_
            have e1 : g_less s a t = (1, S_ct s (va_up (s_ct s) t (fun k => if k < 400 then iCast (s_ct s t k - s_ct s a k) (nI (s_lane s t)) else s_ct s t k))) := by unfold g_less; rw [if_neg (by simp [c29, c37]), if_pos c52]
            rw [e1]
            exact l_less_out a t _ _ ha ht hI c52.1 c52.2 (fun k hk hz => by show iCast (s_ct s t k - s_ct s a k) (nI (s_lane s t)) = _; rw [hI.2.1 t ht k hk hz, hI.2.1 a ha k hk (by rw [c52.1, c52.2]; exact hz), Int32.sub_self]; exact iCast_0 _) (s_h s t) 0 h none (by omega) (by rw [cpF_0, ct_id]; exact hw)
          · replace c52 := b2i_F c52
            try simp only [Int32.lt_iff_toInt_lt, Int32.le_iff_toInt_le, ← Int32.toInt_inj, Int64.lt_iff_toInt_lt, Int64.le_iff_toInt_le, ← Int64.toInt_inj, Int32.toInt_toInt64, i_l0, i_l1, i_l2, i_l5, i_l19, i_m1, j_l0, j_l1, j_l5, i_l3, i_l4, i_l6, i_l7, i_l8, i_l9, i_l12, i_l16, i_l20, i_l60, i_l64, i_l100, i_l200, i_l304, i_l2000, i_l10000, i_l100000, i_l1000000, i_n1000000, i_n19, i_n101, en1, en2] at c52
            refine EV.aload_n (pc := 55) dX4_less_55 rfl ?_
            refine EV.iconst (pc := 56) (v := 5) dX4_less_56 (by decide) ?_
            refine EV.callVPi (pc := 57) (M' := M_X4_caused) dX4_less_57 lkX4_63 okV_X4_caused (m_caused 5 hw (by omega)) (by decide) rfl rfl (Nat.le_of_ble_eq_true rfl) (by decide) hw.h0 (fun h hw => ?_)
            refine EV.topi (y := -15) (by decide +kernel) ?_
            refine EV.iret (pc := 60) dX4_less_60 trivial ?_
            exact PC.i (by unfold g_less; rw [if_neg (by simp [c29, c37]), if_neg c52]) hw
        · replace c37 := b2i_ne c37
          refine EV.aload_n (pc := 40) dX4_less_40 rfl ?_
          refine EV.iconst (pc := 41) (v := 1) dX4_less_41 (by decide) ?_
          refine EV.callVPi (pc := 42) (M' := M_X4_caused) dX4_less_42 lkX4_63 okV_X4_caused (m_caused 1 hw (by omega)) (by decide) rfl rfl (Nat.le_of_ble_eq_true rfl) (by decide) hw.h0 (fun h hw => ?_)
          refine EV.topi (y := -11) (by decide +kernel) ?_
          refine EV.iret (pc := 45) dX4_less_45 trivial ?_
          exact PC.i (by unfold g_less; rw [if_pos (by first | exact Or.inl c29 | exact Or.inr c37)]) hw
    · have e0 : f_less s (nI a) q = (-101, s) := by unfold f_less; rw [if_neg (fun q => hpt q.2)]
      rw [e0]
      refine MC.of (by decide +kernel) (Nat.le_of_ble_eq_true rfl) (by dsimp only [linit, Nat.reduceSub, List.reduceReplicate] <;> rfl) ?_
      refine EV.aload_n (pc := 0) dX4_less_0 rfl ?_
      refine EV.iload_n (pc := 1) dX4_less_1 rfl ?_
      refine EV.callVR1 (pc := 2) (M' := M_X4_plateOf) dX4_less_2 lkX4_55 okV_X4_plateOf (m_plateOf a hw ha) (by decide) rfl rfl (Nat.le_of_ble_eq_true rfl) (by decide) hw.h0 ?_
      refine EV.astore_n (pc := 5) 3 dX4_less_5 rfl (by decide) (by dsimp only [lst1, lk] <;> rfl) ?_
      refine EV.aload_n (pc := 6) dX4_less_6 rfl ?_
      refine EV.iload_n (pc := 7) dX4_less_7 rfl ?_
      refine EV.callVR1 (pc := 8) (M' := M_X4_plateOf) dX4_less_8 lkX4_55 okV_X4_plateOf (m_plateOfN q hw hpt) (by decide) rfl rfl (Nat.le_of_ble_eq_true rfl) (by decide) hw.h0 ?_
      refine EV.astoreN (pc := 11) dX4_less_11 (by decide) (by dsimp only [lst1, lk] <;> rfl) ?_
      refine EV.aload_n (pc := 13) dX4_less_13 rfl ?_
      refine EV.ifnull (pc := 14) dX4_less_14 ?_
      refine EV.aloadN (pc := 17) dX4_less_17 rfl ?_
      refine EV.ifnonnullN (pc := 19) dX4_less_19 ?_
      refine EV.bipush (pc := 22) (v := -101) dX4_less_22 (by decide) ?_
      exact EV.iret (pc := 24) dX4_less_24 trivial ⟨rfl, z, hw⟩
  · by_cases hpt : 0 ≤ q.toInt ∧ q.toInt ≤ 5
    · obtain ⟨t, rfl, et, lt⟩ := i_nat hpt.1
      have ht : t < 6 := by omega
      have hdt := hI.1 t ht
      have e0 : f_less s p (nI t) = (-101, s) := by unfold f_less; rw [if_neg (fun q => hpa q.1)]
      rw [e0]
      refine MC.of (by decide +kernel) (Nat.le_of_ble_eq_true rfl) (by dsimp only [linit, Nat.reduceSub, List.reduceReplicate] <;> rfl) ?_
      refine EV.aload_n (pc := 0) dX4_less_0 rfl ?_
      refine EV.iload_n (pc := 1) dX4_less_1 rfl ?_
      refine EV.callVR1 (pc := 2) (M' := M_X4_plateOf) dX4_less_2 lkX4_55 okV_X4_plateOf (m_plateOfN p hw hpa) (by decide) rfl rfl (Nat.le_of_ble_eq_true rfl) (by decide) hw.h0 ?_
      refine EV.astoreN_n (pc := 5) 3 dX4_less_5 rfl (by decide) (by dsimp only [lst1, lk] <;> rfl) ?_
      refine EV.aload_n (pc := 6) dX4_less_6 rfl ?_
      refine EV.iload_n (pc := 7) dX4_less_7 rfl ?_
      refine EV.callVR1 (pc := 8) (M' := M_X4_plateOf) dX4_less_8 lkX4_55 okV_X4_plateOf (m_plateOf t hw ht) (by decide) rfl rfl (Nat.le_of_ble_eq_true rfl) (by decide) hw.h0 ?_
      refine EV.astore (pc := 11) dX4_less_11 (by decide) (by dsimp only [lst1, lk] <;> rfl) ?_
      refine EV.aloadN_n (pc := 13) dX4_less_13 rfl ?_
      refine EV.ifnullN (pc := 14) (tgt := 22) dX4_less_14 (by decide) ?_
      refine EV.bipush (pc := 22) (v := -101) dX4_less_22 (by decide) ?_
      exact EV.iret (pc := 24) dX4_less_24 trivial ⟨rfl, z, hw⟩
    · have e0 : f_less s p q = (-101, s) := by unfold f_less; rw [if_neg (fun q => hpa q.1)]
      rw [e0]
      refine MC.of (by decide +kernel) (Nat.le_of_ble_eq_true rfl) (by dsimp only [linit, Nat.reduceSub, List.reduceReplicate] <;> rfl) ?_
      refine EV.aload_n (pc := 0) dX4_less_0 rfl ?_
      refine EV.iload_n (pc := 1) dX4_less_1 rfl ?_
      refine EV.callVR1 (pc := 2) (M' := M_X4_plateOf) dX4_less_2 lkX4_55 okV_X4_plateOf (m_plateOfN p hw hpa) (by decide) rfl rfl (Nat.le_of_ble_eq_true rfl) (by decide) hw.h0 ?_
      refine EV.astoreN_n (pc := 5) 3 dX4_less_5 rfl (by decide) (by dsimp only [lst1, lk] <;> rfl) ?_
      refine EV.aload_n (pc := 6) dX4_less_6 rfl ?_
      refine EV.iload_n (pc := 7) dX4_less_7 rfl ?_
      refine EV.callVR1 (pc := 8) (M' := M_X4_plateOf) dX4_less_8 lkX4_55 okV_X4_plateOf (m_plateOfN q hw hpt) (by decide) rfl rfl (Nat.le_of_ble_eq_true rfl) (by decide) hw.h0 ?_
      refine EV.astoreN (pc := 11) dX4_less_11 (by decide) (by dsimp only [lst1, lk] <;> rfl) ?_
      refine EV.aloadN_n (pc := 13) dX4_less_13 rfl ?_
      refine EV.ifnullN (pc := 14) (tgt := 22) dX4_less_14 (by decide) ?_
      refine EV.bipush (pc := 22) (v := -101) dX4_less_22 (by decide) ?_
      exact EV.iret (pc := 24) dX4_less_24 trivial ⟨rfl, z, hw⟩
