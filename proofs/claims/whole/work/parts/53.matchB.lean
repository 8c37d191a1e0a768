noncomputable def mB (s : St) (k : Nat) (t e : Int) : BL := iJ s (pkG (pks s k t)) (pks s k t).length e (pks s k t).length
theorem fitN_md {s : St} {v : Nat} {P : Nat → Int} {a b e : Int} : ∀ n, fitN (S_md s v) P a b e n = fitN s P a b e n
  | 0 => rfl
  | n + 1 => by
    simp only [fitN]
    rw [fitN_md n] <;> rfl
theorem iJ_md {s : St} {v : Nat} {P : Nat → Int} {m : Nat} {e : Int} {n : Nat} : iJ (S_md s v) P m e n = iJ s P m e n := by
  have e1 : ∀ p q u w B, tryL (S_md s v) P m e p q u w B = tryL s P m e p q u w B := by
    intro p q u w B
    unfold tryL
    rw [fitN_md]
  have e2 : ∀ p q u n B, vU (S_md s v) P m e p q u n B = vU s P m e p q u n B := by
    intro p q u n B
    unfold vU
    congr 1
    funext k B
    exact e1 _ _ _ _ _
  have e3 : ∀ p q n B, uU (S_md s v) P m e p q n B = uU s P m e p q n B := by
    intro p q n B
    unfold uU
    congr 1
    funext k B
    exact e2 _ _ _ _ _
  have e4 : ∀ i n B, jJ (S_md s v) P m e i n B = jJ s P m e i n B := by
    intro i n B
    unfold jJ
    congr 1
    funext k B
    exact e3 _ _ _ _
  unfold iJ
  congr 1
  funext i B
  exact e4 _ _ _
noncomputable def mS (s : St) (k : Nat) (B : BL) : St := if B.1 = 0 then s else S_lF (S_lB (S_lA (S_li s (va_up (s_li s) k true)) (va_up (s_lA s) k (iI B.2.1))) (va_up (s_lB s) k (iI B.2.2))) (va_up (s_lF s) k (nI B.1))
noncomputable def g_match (s : St) (k : Nat) (t e : Int) : Int32 × St := if 1 ≤ t ∧ 0 ≤ e ∧ e ≤ 10000 then (if 9 < (pks s k t).length ∨ 200 ≤ s_md s then (-104, s) else (nI (mB s k t e).1, mS (S_md s (s_md s + 1)) k (mB s k t e))) else (-102, s)
noncomputable def f_match (s : St) (c : Int32) (t : Int64) (e : Int32) : Int32 × St := if 0 ≤ c.toInt ∧ c.toInt < s_cn s then g_match s c.toInt.toNat t.toInt e.toInt else (-101, s)

set_option maxHeartbeats 4000000 in
set_option maxRecDepth 100000 in
theorem l_match_j {G : eG} {ad : Nat → Nat} {s : St} {z : Zc} {hm : Nat → va_E} (P : Nat → Int) (m : Nat) (e : Nat) (hm9 : m ≤ 9) (hlc : s_lc s ≤ 12) (hln : ∀ i, i < s_lc s → 1 ≤ (s_ln s i).toInt ∧ (s_ln s i).toInt ≤ 1000000) (he : e ≤ 10000) (hP : ∀ i, i < m → 0 ≤ P i ∧ P i ≤ 2000) (hpp : ∀ i, i < m → c_pp z i = iI (P i)) (hlt : ∀ i j, i < j → j < m → P i < P j) (k : Nat) (c1 : Option Value) (t : Int64) (i : Nat) (hi : i < m) (B : BL) (hB : okB B m) (post : eP) (kx : ∀ (h : Nat → va_E) (w8 : Option Value), CW G ad s (zB z (jJ s P m (e : Int) i (m - (i + 1)) B)) hm h → EV G M_X4_match cX4_match none ad 54 post 123 [some (.ref (ad 0)), c1, some (.long t), none, some (.int (nI e)), some (.ref (ad (22 + 3 * k))), some (.int (nI m)), some (.int (nI i)), w8] [] h) : ∀ (n n0 : Nat) (h : Nat → va_E), n0 + n = m - (i + 1) → CW G ad s (zB z (jJ s P m (e : Int) i n0 B)) hm h → EV G M_X4_match cX4_match none ad 54 post 98 [some (.ref (ad 0)), c1, some (.long t), none, some (.int (nI e)), some (.ref (ad (22 + 3 * k))), some (.int (nI m)), some (.int (nI i)), some (.int (nI (i + 1 + n0)))] [] h := by
  intro n
  induction n with
  | zero =>
    intro n0 h hk hw
    have ek : n0 = m - (i + 1) := by omega
    subst ek
    refine EV.iload (pc := 98) dX4_match_98 rfl ?_
    refine EV.iload (pc := 100) dX4_match_100 rfl ?_
    refine EV.icmp_ge (pc := 102) (tgt := 123) dX4_match_102 (by decide) (fun _ => ?_) (fun q => absurd ((nI_leI (a := m) (b := i + 1 + (m - (i + 1))) (by omega) (by omega)).mpr (by omega)) q)
    exact kx h _ hw
  | succ n ih =>
    intro n0 h hk hw
    refine EV.iload (pc := 98) dX4_match_98 rfl ?_
    refine EV.iload (pc := 100) dX4_match_100 rfl ?_
    refine EV.icmp_ge (pc := 102) (tgt := 123) dX4_match_102 (by decide) (fun q => absurd q (fun z => absurd ((nI_leI (a := m) (b := i + 1 + n0) (by omega) (by omega)).mp z) (by omega))) (fun _ => ?_)
    refine EV.aload_n (pc := 105) dX4_match_105 rfl ?_
    refine EV.iload (pc := 106) dX4_match_106 rfl ?_
    refine EV.iload (pc := 108) dX4_match_108 rfl ?_
    refine EV.iload (pc := 110) dX4_match_110 rfl ?_
    refine EV.iload (pc := 112) dX4_match_112 rfl ?_
    refine EV.topi (y := iI (e : Int)) (nI_iI e) ?_
    refine EV.callVP0 (pc := 114) (M' := M_X4_tryPair) dX4_match_114 lkX4_178 okV_X4_tryPair (m_try P m (e : Int) hm9 hlc hln (by omega) hP hpp i (i + 1 + n0) (by omega) (by omega) (hlt _ _ (by omega) (by omega)) (jJ s P m (e : Int) i n0 B) (okB_j hB) hw) (by decide) rfl rfl (Nat.le_of_ble_eq_true rfl) (by decide) hw.h0 (fun h hw => ?_)
    refine EV.iinc (pc := 117) dX4_match_117 (by decide) rfl (by first | exact nI_inc _ | rfl) (by dsimp only [lst1, lk] <;> rfl) ?_
    refine EV.goto (pc := 120) (tgt := 98) dX4_match_120 (by decide) ?_
    exact ih (n0 + 1) h (by omega) hw

set_option maxHeartbeats 4000000 in
set_option maxRecDepth 100000 in
theorem l_match_i {G : eG} {ad : Nat → Nat} {s : St} {z : Zc} {hm : Nat → va_E} (P : Nat → Int) (m : Nat) (e : Nat) (hm9 : m ≤ 9) (hlc : s_lc s ≤ 12) (hln : ∀ i, i < s_lc s → 1 ≤ (s_ln s i).toInt ∧ (s_ln s i).toInt ≤ 1000000) (he : e ≤ 10000) (hP : ∀ i, i < m → 0 ≤ P i ∧ P i ≤ 2000) (hpp : ∀ i, i < m → c_pp z i = iI (P i)) (hlt : ∀ i j, i < j → j < m → P i < P j) (k : Nat) (c1 : Option Value) (t : Int64) (post : eP) (kx : ∀ (h : Nat → va_E) (w7 w8 : Option Value), CW G ad s (zB z (iJ s P m (e : Int) m)) hm h → EV G M_X4_match cX4_match none ad 54 post 129 [some (.ref (ad 0)), c1, some (.long t), none, some (.int (nI e)), some (.ref (ad (22 + 3 * k))), some (.int (nI m)), w7, w8] [] h) : ∀ (n i : Nat) (h : Nat → va_E) (w8 : Option Value), i + n = m → CW G ad s (zB z (iJ s P m (e : Int) i)) hm h → EV G M_X4_match cX4_match none ad 54 post 85 [some (.ref (ad 0)), c1, some (.long t), none, some (.int (nI e)), some (.ref (ad (22 + 3 * k))), some (.int (nI m)), some (.int (nI i)), w8] [] h := by
  intro n
  induction n with
  | zero =>
    intro i h w8 hk hw
    have ek : i = m := by omega
    subst ek
    refine EV.iload (pc := 85) dX4_match_85 rfl ?_
    refine EV.iload (pc := 87) dX4_match_87 rfl ?_
    refine EV.icmp_ge (pc := 89) (tgt := 129) dX4_match_89 (by decide) (fun _ => ?_) (fun q => absurd ((nI_leI (by omega) (by omega)).mpr (Nat.le_refl _)) q)
    exact kx h _ _ hw
  | succ n ih =>
    intro i h w8 hk hw
    refine EV.iload (pc := 85) dX4_match_85 rfl ?_
    refine EV.iload (pc := 87) dX4_match_87 rfl ?_
    refine EV.icmp_ge (pc := 89) (tgt := 129) dX4_match_89 (by decide) (fun q => absurd q (fun z => absurd ((nI_leI (a := m) (b := i) (by omega) (by omega)).mp z) (by omega))) (fun _ => ?_)
    refine EV.iload (pc := 92) dX4_match_92 rfl ?_
    refine EV.iconst (pc := 94) (v := 1) dX4_match_94 (by decide) ?_
    refine EV.iadd (pc := 95) dX4_match_95 ?_
    refine EV.topi (y := nI (i + 1 + 0)) (nI_p1 i) ?_
    refine EV.istore (pc := 96) dX4_match_96 (by decide) (by dsimp only [lst1, lk] <;> rfl) ?_
    refine l_match_j P m e hm9 hlc hln he hP hpp hlt k c1 t i (by omega) (iJ s P m (e : Int) i) okB_i _ (fun h w8 hw => ?_) (m - (i + 1)) 0 h (by omega) hw
    refine EV.iinc (pc := 123) dX4_match_123 (by decide) rfl (by first | exact nI_inc _ | rfl) (by dsimp only [lst1, lk] <;> rfl) ?_
    refine EV.goto (pc := 126) (tgt := 85) dX4_match_126 (by decide) ?_
    exact ih (i + 1) h _ (by omega) hw

set_option maxHeartbeats 4000000 in
set_option maxRecDepth 100000 in
theorem l_match_e {G : eG} {ad : Nat → Nat} {s : St} {z : Zc} {hm : Nat → va_E} (m e k : Nat) (hk4 : k < 4) (c1 w7 w8 : Option Value) (t : Int64) (B : BL) (hB : okB B m) {h : Nat → va_E} (hw : CW G ad s (zB z B) hm h) : EV G M_X4_match cX4_match none ad 54 (PC G ad hm (.int (nI B.1)) (mS s k B)) 129 [some (.ref (ad 0)), c1, some (.long t), none, some (.int (nI e)), some (.ref (ad (22 + 3 * k))), some (.int (nI m)), w7, w8] [] h := by
  refine EV.aload_n (pc := 129) dX4_match_129 rfl ?_
  refine EV.getf (pc := 130) dX4_match_130 fgX4_49 (by decide) hw.h0 rfl ?_
  refine EV.getf (pc := 133) dX4_match_133 fgX4_182 (by decide) hw.h9 rfl ?_
  refine EV.topi (y := b2i (decide (B.1 ≠ 0))) rfl ?_
  refine EV.if_ne (pc := 136) (tgt := 141) dX4_match_136 (by decide) (fun c136 => ?_) (fun c136 => ?_)
  · replace c136 := b2i_ne c136
    refine EV.aload (pc := 141) dX4_match_141 rfl ?_
    refine EV.getf (pc := 143) dX4_match_143 fgX4_151 (show 22 + 3 * k < 54 by omega) (hw.kb' hk4) rfl ?_
    refine EV.aload_n (pc := 146) dX4_match_146 rfl ?_
    refine EV.getf (pc := 147) dX4_match_147 fgX4_49 (by decide) hw.h0 rfl ?_
    refine EV.getf (pc := 150) dX4_match_150 fgX4_185 (by decide) hw.h9 rfl ?_
    refine EV.topi (y := iI B.2.1) rfl ?_
    refine EV.aload_n (pc := 153) dX4_match_153 rfl ?_
    refine EV.getf (pc := 154) dX4_match_154 fgX4_49 (by decide) hw.h0 rfl ?_
    refine EV.getf (pc := 157) dX4_match_157 fgX4_186 (by decide) hw.h9 rfl ?_
    refine EV.topi (y := iI B.2.2) rfl ?_
    refine EV.aload_n (pc := 160) dX4_match_160 rfl ?_
    refine EV.getf (pc := 161) dX4_match_161 fgX4_49 (by decide) hw.h0 rfl ?_
    refine EV.getf (pc := 164) dX4_match_164 fgX4_187 (by decide) hw.h9 rfl ?_
    refine EV.topi (y := nI B.1) rfl ?_
    refine EV.callVR0 (pc := 167) (M' := M_X1_become) dX4_match_167 lkX4_190 okV_X1_become (m_become (24 + 3 * k) _ _ _ _ (iI B.2.1) (iI B.2.2) (nI B.1) (by omega) (hw.lw' hk4)) (by decide) rfl rfl (Nat.le_of_ble_eq_true rfl) (show 24 + 3 * k < 54 by omega) (hw.lw' hk4) ?_
    have hB0 : ¬ B.1 = 0 := of_decide_eq_true c136
    refine EV.abs (Pr := CW G ad (mS s k B) (zB z B) hm) (by
      have q := hw.set_lw k true (iI B.2.1) (iI B.2.2) (nI B.1) hk4
      unfold mS
      rw [if_neg hB0]
      exact q) (fun h hw => ?_)
    refine EV.aload_n (pc := 170) dX4_match_170 rfl ?_
    refine EV.getf (pc := 171) dX4_match_171 fgX4_49 (by decide) hw.h0 rfl ?_
    refine EV.getf (pc := 174) dX4_match_174 fgX4_187 (by decide) hw.h9 rfl ?_
    refine EV.topi (y := nI B.1) rfl ?_
    refine EV.iret (pc := 177) dX4_match_177 trivial ?_
    exact PC.mk rfl rfl hw
  · replace c136 := b2i_eq c136
    refine EV.iconst (pc := 139) (v := 0) dX4_match_139 (by decide) ?_
    refine EV.iret (pc := 140) dX4_match_140 trivial ?_
    have hB0 : B.1 = 0 := Decidable.not_not.mp (of_decide_eq_false c136)
    exact PC.mk (by rw [hB0]; rfl) (by unfold mS; rw [if_pos hB0]) hw

set_option maxHeartbeats 4000000 in
set_option maxRecDepth 100000 in
theorem p_match {G : eG} {ad : Nat → Nat} {h : Nat → va_E} {s : St} {z : Zc} {hm : Nat → va_E} (hw : CW G ad s z hm h) (hI : Inv s) (c : Int32) (t : Int64) (e : Int32)  : MC G M_X4_match cX4_match ad 54 [.ref (ad 0), .int c, .long t, .int e] h (PC G ad hm (.int (f_match s c t e).1) (f_match s c t e).2) := by
  have hcn : s_cn s ≤ 4 := hI.2.2.1
  by_cases hp : 0 ≤ c.toInt ∧ c.toInt < s_cn s
  · obtain ⟨k, rfl, ek, lk⟩ := i_nat hp.1
    have hk : k < s_cn s := by omega
    have hk4 : k < 4 := by omega
    have hco : s_co s k ≤ 20 := (hI.2.2.2.1 k hk4).2.2.2
    have hlc : s_lc s ≤ 12 := hI.2.2.2.2.2.2.2.1
    have hln := hI.2.2.2.2.2.2.2.2.1
    have hmd : s_md s ≤ 200 := hI.2.2.2.2.2.2.2.2.2.2.1
    have hl := pks_len (t := t.toInt) hco
    have e1 := nI_t (show (pks s k t.toInt).length < 2147483648 by omega)
    have emd := nI_t (show s_md s < 2147483648 by omega)
    have e0 : f_match s (nI k) t e = g_match s k t.toInt e.toInt := by unfold f_match; rw [if_pos hp, nI_tn (by omega)]
    rw [e0]
    refine MC.of (by decide +kernel) (Nat.le_of_ble_eq_true rfl) (by dsimp only [linit, Nat.reduceSub, List.reduceReplicate] <;> rfl) ?_
    refine EV.aload_n (pc := 0) dX4_match_0 rfl ?_
    refine EV.iload_n (pc := 1) dX4_match_1 rfl ?_
    refine EV.callVR1 (pc := 2) (M' := M_X4_combOf) dX4_match_2 lkX4_122 okV_X4_combOf (m_combOf k hw hk hcn) (by decide) rfl rfl (Nat.le_of_ble_eq_true rfl) (by decide) hw.h0 ?_
    refine EV.astore (pc := 5) dX4_match_5 (by decide) (by dsimp only [lst1, lk] <;> rfl) ?_
    refine EV.aload (pc := 7) dX4_match_7 rfl ?_
    refine EV.ifnonnull (pc := 9) (tgt := 15) dX4_match_9 (by decide) ?_
    refine EV.lload_n (pc := 15) dX4_match_15 rfl ?_
    refine EV.lconst (pc := 16) (v := 1) dX4_match_16 (by decide) ?_
    refine EV.lcmp_lt (pc := 17) (tgt := 33) dX4_match_17 dX4_match_18 (by decide) (fun c17 => ?_) (fun c17 => ?_)
    · try simp only [Int32.lt_iff_toInt_lt, Int32.le_iff_toInt_le, ← Int32.toInt_inj, Int64.lt_iff_toInt_lt, Int64.le_iff_toInt_le, ← Int64.toInt_inj, Int32.toInt_toInt64, i_l0, i_l1, i_l2, i_l5, i_l19, i_m1, j_l0, j_l1, j_l5, i_l3, i_l4, i_l6, i_l7, i_l8, i_l9, i_l12, i_l16, i_l20, i_l60, i_l64, i_l100, i_l200, i_l304, i_l2000, i_l10000, i_l100000, i_l1000000, i_n1000000, i_n19, i_n101, e1, emd] at c17
      refine EV.bipush (pc := 33) (v := -102) dX4_match_33 (by decide) ?_
      refine EV.iret (pc := 35) dX4_match_35 trivial ?_
      exact PC.i (by unfold g_match; rw [if_neg (by omega)]) hw
    · try simp only [Int32.lt_iff_toInt_lt, Int32.le_iff_toInt_le, ← Int32.toInt_inj, Int64.lt_iff_toInt_lt, Int64.le_iff_toInt_le, ← Int64.toInt_inj, Int32.toInt_toInt64, i_l0, i_l1, i_l2, i_l5, i_l19, i_m1, j_l0, j_l1, j_l5, i_l3, i_l4, i_l6, i_l7, i_l8, i_l9, i_l12, i_l16, i_l20, i_l60, i_l64, i_l100, i_l200, i_l304, i_l2000, i_l10000, i_l100000, i_l1000000, i_n1000000, i_n19, i_n101, e1, emd] at c17
      refine EV.iload (pc := 21) dX4_match_21 rfl ?_
      refine EV.iconst (pc := 23) (v := 0) dX4_match_23 (by decide) ?_
      refine EV.sipush (pc := 24) (v := 10000) dX4_match_24 (by decide) ?_
      refine EV.callSR1 (pc := 27) (M' := M_X4_within) dX4_match_27 lkX4_106 okS_X4_within (m_within _ _ _) (by decide) rfl rfl (Nat.le_of_ble_eq_true rfl) ?_
      refine EV.if_ne (pc := 30) (tgt := 36) dX4_match_30 (by decide) (fun c30 => ?_) (fun c30 => ?_)
      · replace c30 := b2i_T c30
        try simp only [Int32.lt_iff_toInt_lt, Int32.le_iff_toInt_le, ← Int32.toInt_inj, Int64.lt_iff_toInt_lt, Int64.le_iff_toInt_le, ← Int64.toInt_inj, Int32.toInt_toInt64, i_l0, i_l1, i_l2, i_l5, i_l19, i_m1, j_l0, j_l1, j_l5, i_l3, i_l4, i_l6, i_l7, i_l8, i_l9, i_l12, i_l16, i_l20, i_l60, i_l64, i_l100, i_l200, i_l304, i_l2000, i_l10000, i_l100000, i_l1000000, i_n1000000, i_n19, i_n101, e1, emd] at c30
        refine EV.aload_n (pc := 36) dX4_match_36 rfl ?_
        refine EV.aload (pc := 37) dX4_match_37 rfl ?_
        refine EV.lload_n (pc := 39) dX4_match_39 rfl ?_
        refine EV.callVPi (pc := 40) (M' := M_X4_findPlaces) dX4_match_40 lkX4_167 okV_X4_findPlaces (m_find hw k t hI hk4) (by decide) rfl rfl (Nat.le_of_ble_eq_true rfl) (by decide) hw.h0 (fun h hw => ?_)
        refine EV.istore (pc := 43) dX4_match_43 (by decide) (by dsimp only [lst1, lk] <;> rfl) ?_
        refine EV.iload (pc := 45) dX4_match_45 rfl ?_
        refine EV.bipush (pc := 47) (v := 9) dX4_match_47 (by decide) ?_
        refine EV.icmp_gt (pc := 49) (tgt := 62) dX4_match_49 (by decide) (fun c49 => ?_) (fun c49 => ?_)
        · try simp only [Int32.lt_iff_toInt_lt, Int32.le_iff_toInt_le, ← Int32.toInt_inj, Int64.lt_iff_toInt_lt, Int64.le_iff_toInt_le, ← Int64.toInt_inj, Int32.toInt_toInt64, i_l0, i_l1, i_l2, i_l5, i_l19, i_m1, j_l0, j_l1, j_l5, i_l3, i_l4, i_l6, i_l7, i_l8, i_l9, i_l12, i_l16, i_l20, i_l60, i_l64, i_l100, i_l200, i_l304, i_l2000, i_l10000, i_l100000, i_l1000000, i_n1000000, i_n19, i_n101, e1, emd] at c49
          refine EV.bipush (pc := 62) (v := -104) dX4_match_62 (by decide) ?_
          refine EV.iret (pc := 64) dX4_match_64 trivial ?_
          exact PC.i (by unfold g_match; rw [if_pos (by omega), if_pos (by omega)]) hw
        · try simp only [Int32.lt_iff_toInt_lt, Int32.le_iff_toInt_le, ← Int32.toInt_inj, Int64.lt_iff_toInt_lt, Int64.le_iff_toInt_le, ← Int64.toInt_inj, Int32.toInt_toInt64, i_l0, i_l1, i_l2, i_l5, i_l19, i_m1, j_l0, j_l1, j_l5, i_l3, i_l4, i_l6, i_l7, i_l8, i_l9, i_l12, i_l16, i_l20, i_l60, i_l64, i_l100, i_l200, i_l304, i_l2000, i_l10000, i_l100000, i_l1000000, i_n1000000, i_n19, i_n101, e1, emd] at c49
          refine EV.aload_n (pc := 52) dX4_match_52 rfl ?_
          refine EV.getf (pc := 53) dX4_match_53 fgX4_175 (by decide) hw.h0 rfl ?_
          refine EV.sipush (pc := 56) (v := 200) dX4_match_56 (by decide) ?_
          refine EV.icmp_lt (pc := 59) (tgt := 65) dX4_match_59 (by decide) (fun c59 => ?_) (fun c59 => ?_)
          · try simp only [Int32.lt_iff_toInt_lt, Int32.le_iff_toInt_le, ← Int32.toInt_inj, Int64.lt_iff_toInt_lt, Int64.le_iff_toInt_le, ← Int64.toInt_inj, Int32.toInt_toInt64, i_l0, i_l1, i_l2, i_l5, i_l19, i_m1, j_l0, j_l1, j_l5, i_l3, i_l4, i_l6, i_l7, i_l8, i_l9, i_l12, i_l16, i_l20, i_l60, i_l64, i_l100, i_l200, i_l304, i_l2000, i_l10000, i_l100000, i_l1000000, i_n1000000, i_n19, i_n101, e1, emd] at c59
            obtain ⟨e2, rfl, ee2, le2⟩ := i_nat (show 0 ≤ e.toInt by omega)
            refine EV.aload_n (pc := 65) dX4_match_65 rfl ?_
            refine EV.dup (pc := 66) dX4_match_66 rfl ?_
            refine EV.getf (pc := 67) dX4_match_67 fgX4_175 (by decide) hw.h0 rfl ?_
            refine EV.iconst (pc := 70) (v := 1) dX4_match_70 (by decide) ?_
            refine EV.iadd (pc := 71) dX4_match_71 ?_
            refine EV.topi (y := nI (s_md s + 1)) (nI_p1 _) ?_
            refine EV.putf (pc := 72) dX4_match_72 fpX4_175 (by decide) hw.h0 rfl rfl (Nat.le_of_ble_eq_true rfl) ?_
            refine EV.abs (Pr := CW G ad (S_md s (s_md s + 1)) (C_pp z (plA (pks s k t.toInt) (c_pp z))) hm) (hw.set_md (s_md s + 1)) (fun h hw => ?_)
            refine EV.aload_n (pc := 75) dX4_match_75 rfl ?_
            refine EV.getf (pc := 76) dX4_match_76 fgX4_49 (by decide) hw.h0 rfl ?_
            refine EV.callVR0 (pc := 79) (M' := M_X1_drop) dX4_match_79 lkX4_154 okV_X1_drop (m_drop 9 _ _ _ _ (by decide) hw.h9) (by decide) rfl rfl (Nat.le_of_ble_eq_true rfl) (by decide) hw.h9 ?_
            refine EV.abs (Pr := CW G ad (S_md s (s_md s + 1)) (zB (C_pp z (plA (pks s k t.toInt) (c_pp z))) (0, 0, 0)) hm) (by
      have q := hw.set_h9 false 0 0 0
      have e5 : zB (C_pp z (plA (pks s k t.toInt) (c_pp z))) (0, 0, 0) = C_bf (C_bb (C_ba (C_bi (C_pp z (plA (pks s k t.toInt) (c_pp z))) false) 0) 0) 0 := by
        simp only [zB, iI_z]
        rfl
      rw [e5]
      exact q) (fun h hw => ?_)
            refine EV.iconst (pc := 82) (v := 0) dX4_match_82 (by decide) ?_
            refine EV.istore (pc := 83) dX4_match_83 (by decide) (by dsimp only [lst1, lk] <;> rfl) ?_
            have e6 : g_match s k t.toInt (nI e2).toInt = (nI (mB s k t.toInt (e2 : Int)).1, mS (S_md s (s_md s + 1)) k (mB s k t.toInt (e2 : Int))) := by unfold g_match; rw [if_pos (by omega), if_neg (by omega), ee2]
            rw [e6]
            refine l_match_i (s := (S_md s (s_md s + 1))) (z := (C_pp z (plA (pks s k t.toInt) (c_pp z)))) (pkG (pks s k t.toInt)) (pks s k t.toInt).length e2 (by omega) hlc hln (by omega) (fun i hi => pkG_in hco hi) (fun i hi => ?_) (fun i j hij hj => pkG_lt hij hj) k _ t _ (fun h w7 w8 hw => ?_) (pks s k t.toInt).length 0 h _ (by omega) hw
            · show plA _ _ i = _
              unfold plA
              rw [if_pos hi]
              rfl
            · exact l_match_e (s := (S_md s (s_md s + 1))) _ e2 k hk4 _ w7 w8 t (mB s k t.toInt (e2 : Int)) okB_i (by rw [iJ_md] at hw; exact hw)
          · try simp only [Int32.lt_iff_toInt_lt, Int32.le_iff_toInt_le, ← Int32.toInt_inj, Int64.lt_iff_toInt_lt, Int64.le_iff_toInt_le, ← Int64.toInt_inj, Int32.toInt_toInt64, i_l0, i_l1, i_l2, i_l5, i_l19, i_m1, j_l0, j_l1, j_l5, i_l3, i_l4, i_l6, i_l7, i_l8, i_l9, i_l12, i_l16, i_l20, i_l60, i_l64, i_l100, i_l200, i_l304, i_l2000, i_l10000, i_l100000, i_l1000000, i_n1000000, i_n19, i_n101, e1, emd] at c59
            refine EV.bipush (pc := 62) (v := -104) dX4_match_62 (by decide) ?_
            refine EV.iret (pc := 64) dX4_match_64 trivial ?_
            exact PC.i (by unfold g_match; rw [if_pos (by omega), if_pos (by omega)]) hw
      · replace c30 := b2i_F c30
        try simp only [Int32.lt_iff_toInt_lt, Int32.le_iff_toInt_le, ← Int32.toInt_inj, Int64.lt_iff_toInt_lt, Int64.le_iff_toInt_le, ← Int64.toInt_inj, Int32.toInt_toInt64, i_l0, i_l1, i_l2, i_l5, i_l19, i_m1, j_l0, j_l1, j_l5, i_l3, i_l4, i_l6, i_l7, i_l8, i_l9, i_l12, i_l16, i_l20, i_l60, i_l64, i_l100, i_l200, i_l304, i_l2000, i_l10000, i_l100000, i_l1000000, i_n1000000, i_n19, i_n101, e1, emd] at c30
        refine EV.bipush (pc := 33) (v := -102) dX4_match_33 (by decide) ?_
        refine EV.iret (pc := 35) dX4_match_35 trivial ?_
        exact PC.i (by unfold g_match; rw [if_neg (by omega)]) hw
  · have e0 : f_match s c t e = (-101, s) := by unfold f_match; rw [if_neg hp]
    rw [e0]
    refine MC.of (by decide +kernel) (Nat.le_of_ble_eq_true rfl) (by dsimp only [linit, Nat.reduceSub, List.reduceReplicate] <;> rfl) ?_
    refine EV.aload_n (pc := 0) dX4_match_0 rfl ?_
    refine EV.iload_n (pc := 1) dX4_match_1 rfl ?_
    refine EV.callVR1 (pc := 2) (M' := M_X4_combOf) dX4_match_2 lkX4_122 okV_X4_combOf (m_combOfN c hw hp hcn) (by decide) rfl rfl (Nat.le_of_ble_eq_true rfl) (by decide) hw.h0 ?_
    refine EV.astoreN (pc := 5) dX4_match_5 (by decide) (by dsimp only [lst1, lk] <;> rfl) ?_
    refine EV.aloadN (pc := 7) dX4_match_7 rfl ?_
    refine EV.ifnonnullN (pc := 9) dX4_match_9 ?_
    refine EV.bipush (pc := 12) (v := -101) dX4_match_12 (by decide) ?_
    exact EV.iret (pc := 14) dX4_match_14 trivial ⟨rfl, z, hw⟩
