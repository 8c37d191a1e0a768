set_option maxHeartbeats 4000000 in
set_option maxRecDepth 100000 in
theorem l_dg4 {G : eG} {ad : Nat → Nat} {h : Nat → va_E} {s : St} {z : Zc} {hm : Nat → va_E} (hw : CW G ad s z hm h)  (hI : Inv s) (hlc : s_lc s ≤ 12) (hmd : s_md s ≤ 200) : ∀ (n i : Nat), i + n = s_lc s → EV G M_X4_digest cX4_digest none ad 54 (IS (some (.long (f_digest s))) h) 91 [some (.ref (ad 0)), some (.long (dgN (fun i => (s_ln s i).toInt64) i (dgCs s (s_cn s) (dgB (s_bad s) 400 (dgPs s 6 113))))), none, some (.int (nI i))] [] h := by
  intro n
  induction n with
  | zero =>
    intro i hi
    have e : i = s_lc s := by omega
    subst e
    refine EV.iload_n (pc := 91) dX4_digest_91 rfl ?_
    refine EV.aload_n (pc := 92) dX4_digest_92 rfl ?_
    refine EV.getf (pc := 93) dX4_digest_93 fgX4_172 (by decide) hw.h0 rfl ?_
    refine EV.icmp_ge (pc := 96) (tgt := 117) dX4_digest_96 (by decide) (fun _ => ?_) (fun q => absurd ((nI_leI (by omega) (by omega)).mpr (Nat.le_refl _)) q)
    refine EV.lload_n (pc := 117) dX4_digest_117 rfl ?_
    refine EV.aload_n (pc := 118) dX4_digest_118 rfl ?_
    refine EV.getf (pc := 119) dX4_digest_119 fgX4_103 (by decide) hw.h0 rfl ?_
    refine EV.i2l (pc := 122) dX4_digest_122 ?_
    refine EV.callSR1 (pc := 123) (M' := M_X4_mix) dX4_digest_123 lkX4_238 okS_X4_mix (m_mix _ _) (by decide) rfl rfl (Nat.le_of_ble_eq_true rfl) ?_
    refine EV.lstore_n (pc := 126) 1 dX4_digest_126 rfl (by decide) (by dsimp only [lst2, lno, lk] <;> rfl) ?_
    refine EV.lload_n (pc := 127) dX4_digest_127 rfl ?_
    refine EV.aload_n (pc := 128) dX4_digest_128 rfl ?_
    refine EV.getf (pc := 129) dX4_digest_129 fgX4_175 (by decide) hw.h0 rfl ?_
    refine EV.i2l (pc := 132) dX4_digest_132 ?_
    refine EV.callSR1 (pc := 133) (M' := M_X4_mix) dX4_digest_133 lkX4_238 okS_X4_mix (m_mix _ _) (by decide) rfl rfl (Nat.le_of_ble_eq_true rfl) ?_
    refine EV.lret (pc := 136) dX4_digest_136 trivial ?_
    exact ⟨congrArg (fun z => some (Value.long z)) (by unfold f_digest; rw [nI_L (by omega)]), rfl⟩
  | succ n ih =>
    intro i hi
    have hi2 : i < s_lc s := by omega
    refine EV.iload_n (pc := 91) dX4_digest_91 rfl ?_
    refine EV.aload_n (pc := 92) dX4_digest_92 rfl ?_
    refine EV.getf (pc := 93) dX4_digest_93 fgX4_172 (by decide) hw.h0 rfl ?_
    refine EV.icmp_ge (pc := 96) (tgt := 117) dX4_digest_96 (by decide) (fun q => absurd q (fun z => absurd ((nI_leI (a := s_lc s) (b := i) (by omega) (by omega)).mp z) (by omega))) (fun _ => ?_)
    refine EV.lload_n (pc := 99) dX4_digest_99 rfl ?_
    refine EV.aload_n (pc := 100) dX4_digest_100 rfl ?_
    refine EV.getf (pc := 101) dX4_digest_101 fgX4_25 (by decide) hw.h0 rfl ?_
    refine EV.iload_n (pc := 104) dX4_digest_104 rfl ?_
    refine EV.iald (pc := 105) dX4_digest_105 (by decide) hw.h4 (vp_in_nI (show i < 12 by omega) (by omega)) ?_
    refine EV.topi (y := s_ln s i) (by rw [nI_clamp (by omega)]) ?_
    refine EV.i2l (pc := 106) dX4_digest_106 ?_
    refine EV.callSR1 (pc := 107) (M' := M_X4_mix) dX4_digest_107 lkX4_238 okS_X4_mix (m_mix _ _) (by decide) rfl rfl (Nat.le_of_ble_eq_true rfl) ?_
    refine EV.lstore_n (pc := 110) 1 dX4_digest_110 rfl (by decide) (by dsimp only [lst2, lno, lk] <;> rfl) ?_
    refine EV.iinc (pc := 111) dX4_digest_111 (by decide) rfl (by first | exact nI_inc _ | rfl) (by dsimp only [lst1, lk] <;> rfl) ?_
    refine EV.goto (pc := 114) (tgt := 91) dX4_digest_114 (by decide) ?_
    exact ih (i + 1) (by omega)

set_option maxHeartbeats 4000000 in
set_option maxRecDepth 100000 in
theorem l_dg3 {G : eG} {ad : Nat → Nat} {h : Nat → va_E} {s : St} {z : Zc} {hm : Nat → va_E} (hw : CW G ad s z hm h)  (hI : Inv s) (hlc : s_lc s ≤ 12) (hmd : s_md s ≤ 200) (hcn : s_cn s ≤ 4) : ∀ (n i : Nat), i + n = s_cn s → EV G M_X4_digest cX4_digest none ad 54 (IS (some (.long (f_digest s))) h) 64 [some (.ref (ad 0)), some (.long (dgCs s i (dgB (s_bad s) 400 (dgPs s 6 113)))), none, some (.int (nI i))] [] h := by
  intro n
  induction n with
  | zero =>
    intro i hi
    have e : i = s_cn s := by omega
    subst e
    refine EV.iload_n (pc := 64) dX4_digest_64 rfl ?_
    refine EV.aload_n (pc := 65) dX4_digest_65 rfl ?_
    refine EV.getf (pc := 66) dX4_digest_66 fgX4_110 (by decide) hw.h0 rfl ?_
    refine EV.icmp_ge (pc := 69) (tgt := 89) dX4_digest_69 (by decide) (fun _ => ?_) (fun q => absurd ((nI_leI (by omega) (by omega)).mpr (Nat.le_refl _)) q)
    refine EV.iconst (pc := 89) (v := 0) dX4_digest_89 (by decide) ?_
    refine EV.istore_n (pc := 90) 3 dX4_digest_90 rfl (by decide) (by dsimp only [lst1, lk] <;> rfl) ?_
    exact l_dg4 hw hI hlc hmd (s_lc s) 0 (by omega)
  | succ n ih =>
    intro i hi
    have hi2 : i < s_cn s := by omega
    refine EV.iload_n (pc := 64) dX4_digest_64 rfl ?_
    refine EV.aload_n (pc := 65) dX4_digest_65 rfl ?_
    refine EV.getf (pc := 66) dX4_digest_66 fgX4_110 (by decide) hw.h0 rfl ?_
    refine EV.icmp_ge (pc := 69) (tgt := 89) dX4_digest_69 (by decide) (fun q => absurd q (fun z => absurd ((nI_leI (a := s_cn s) (b := i) (by omega) (by omega)).mp z) (by omega))) (fun _ => ?_)
    refine EV.lload_n (pc := 72) dX4_digest_72 rfl ?_
    refine EV.aload_n (pc := 73) dX4_digest_73 rfl ?_
    refine EV.getf (pc := 74) dX4_digest_74 fgX4_21 (by decide) hw.h0 rfl ?_
    refine EV.iload_n (pc := 77) dX4_digest_77 rfl ?_
    refine EV.aald (pc := 78) (t0 := 4) dX4_digest_78 rfl (by decide) hw.h3 (vp_in_nI (show i < 4 by omega) (by omega)) (v := .ref (ad (22 + 3 * i))) (by rw [nI_clamp (by omega)]; rfl) ?_
    refine EV.callSR1 (pc := 79) (M' := M_X4_digestComb) dX4_digest_79 lkX4_242 okS_X4_digestComb (m_digestComb i _ hw (by omega) (hI.2.2.2.1 i (by omega)).2.2.2) (by decide) rfl rfl (Nat.le_of_ble_eq_true rfl) ?_
    refine EV.lstore_n (pc := 82) 1 dX4_digest_82 rfl (by decide) (by dsimp only [lst2, lno, lk] <;> rfl) ?_
    refine EV.iinc (pc := 83) dX4_digest_83 (by decide) rfl (by first | exact nI_inc _ | rfl) (by dsimp only [lst1, lk] <;> rfl) ?_
    refine EV.goto (pc := 86) (tgt := 64) dX4_digest_86 (by decide) ?_
    exact ih (i + 1) (by omega)

set_option maxHeartbeats 4000000 in
set_option maxRecDepth 100000 in
theorem l_dg2 {G : eG} {ad : Nat → Nat} {h : Nat → va_E} {s : St} {z : Zc} {hm : Nat → va_E} (hw : CW G ad s z hm h)  (hI : Inv s) (hlc : s_lc s ≤ 12) (hmd : s_md s ≤ 200) (hcn : s_cn s ≤ 4) : ∀ (n i : Nat), i + n = 400 → EV G M_X4_digest cX4_digest none ad 54 (IS (some (.long (f_digest s))) h) 31 [some (.ref (ad 0)), some (.long (dgB (s_bad s) i (dgPs s 6 113))), none, some (.int (nI i))] [] h := by
  intro n
  induction n with
  | zero =>
    intro i hi
    have e : i = 400 := by omega
    subst e
    refine EV.iload_n (pc := 31) dX4_digest_31 rfl ?_
    refine EV.aload_n (pc := 32) dX4_digest_32 rfl ?_
    refine EV.getf (pc := 33) dX4_digest_33 fgX4_15 (by decide) hw.h0 rfl ?_
    refine EV.alen (pc := 36) (t0 := 2) dX4_digest_36 rfl (by decide) hw.h2 (v := nI 400) rfl ?_
    refine EV.icmp_ge (pc := 37) (tgt := 62) dX4_digest_37 (by decide) (fun _ => ?_) (fun q => absurd ((nI_leI (a := 400) (b := 400) (by omega) (by omega)).mpr (by omega)) q)
    refine EV.iconst (pc := 62) (v := 0) dX4_digest_62 (by decide) ?_
    refine EV.istore_n (pc := 63) 3 dX4_digest_63 rfl (by decide) (by dsimp only [lst1, lk] <;> rfl) ?_
    exact l_dg3 hw hI hlc hmd hcn (s_cn s) 0 (by omega)
  | succ n ih =>
    intro i hi
    have hi2 : i < 400 := by omega
    refine EV.iload_n (pc := 31) dX4_digest_31 rfl ?_
    refine EV.aload_n (pc := 32) dX4_digest_32 rfl ?_
    refine EV.getf (pc := 33) dX4_digest_33 fgX4_15 (by decide) hw.h0 rfl ?_
    refine EV.alen (pc := 36) (t0 := 2) dX4_digest_36 rfl (by decide) hw.h2 (v := nI 400) rfl ?_
    refine EV.icmp_ge (pc := 37) (tgt := 62) dX4_digest_37 (by decide) (fun q => absurd q (fun z => absurd ((nI_leI (a := 400) (b := i) (by omega) (by omega)).mp z) (by omega))) (fun _ => ?_)
    refine EV.aload_n (pc := 40) dX4_digest_40 rfl ?_
    refine EV.getf (pc := 41) dX4_digest_41 fgX4_15 (by decide) hw.h0 rfl ?_
    refine EV.iload_n (pc := 44) dX4_digest_44 rfl ?_
    refine EV.zald (pc := 45) dX4_digest_45 (by decide) hw.h2 (vp_in_nI (by omega) (by omega)) ?_
    refine EV.topi (y := b2i (s_bad s i)) (by rw [nI_clamp (by omega)]) ?_
    refine EV.if_eq (pc := 46) (tgt := 56) dX4_digest_46 (by decide) (fun c46 => ?_) (fun c46 => ?_)
    · replace c46 := b2i_eq c46
      refine EV.iinc (pc := 56) dX4_digest_56 (by decide) rfl (by first | exact nI_inc _ | rfl) (by dsimp only [lst1, lk] <;> rfl) ?_
      refine EV.goto (pc := 59) (tgt := 31) dX4_digest_59 (by decide) ?_
      refine EV.eq rfl ?_ rfl rfl (ih (i + 1) (by omega))
      simp [dgB, c46]
    · replace c46 := b2i_ne c46
      refine EV.lload_n (pc := 49) dX4_digest_49 rfl ?_
      refine EV.iload_n (pc := 50) dX4_digest_50 rfl ?_
      refine EV.i2l (pc := 51) dX4_digest_51 ?_
      refine EV.topl (y := lN i) (nI_L (by omega)) ?_
      refine EV.callSR1 (pc := 52) (M' := M_X4_mix) dX4_digest_52 lkX4_238 okS_X4_mix (m_mix _ _) (by decide) rfl rfl (Nat.le_of_ble_eq_true rfl) ?_
      refine EV.lstore_n (pc := 55) 1 dX4_digest_55 rfl (by decide) (by dsimp only [lst2, lno, lk] <;> rfl) ?_
      refine EV.iinc (pc := 56) dX4_digest_56 (by decide) rfl (by first | exact nI_inc _ | rfl) (by dsimp only [lst1, lk] <;> rfl) ?_
      refine EV.goto (pc := 59) (tgt := 31) dX4_digest_59 (by decide) ?_
      refine EV.eq rfl ?_ rfl rfl (ih (i + 1) (by omega))
      simp [dgB, c46]

set_option maxHeartbeats 4000000 in
set_option maxRecDepth 100000 in
theorem l_dg1 {G : eG} {ad : Nat → Nat} {h : Nat → va_E} {s : St} {z : Zc} {hm : Nat → va_E} (hw : CW G ad s z hm h)  (hI : Inv s) (hlc : s_lc s ≤ 12) (hmd : s_md s ≤ 200) (hcn : s_cn s ≤ 4) : ∀ (n i : Nat), i + n = 6 → EV G M_X4_digest cX4_digest none ad 54 (IS (some (.long (f_digest s))) h) 6 [some (.ref (ad 0)), some (.long (dgPs s i 113)), none, some (.int (nI i))] [] h := by
  intro n
  induction n with
  | zero =>
    intro i hi
    have e : i = 6 := by omega
    subst e
    refine EV.iload_n (pc := 6) dX4_digest_6 rfl ?_
    refine EV.bipush (pc := 7) (v := 6) dX4_digest_7 (by decide) ?_
    refine EV.icmp_ge (pc := 9) (tgt := 29) dX4_digest_9 (by decide) (fun _ => ?_) (fun q => absurd ((nI_leI (a := 6) (b := 6) (by omega) (by omega)).mpr (by omega)) q)
    refine EV.iconst (pc := 29) (v := 0) dX4_digest_29 (by decide) ?_
    refine EV.istore_n (pc := 30) 3 dX4_digest_30 rfl (by decide) (by dsimp only [lst1, lk] <;> rfl) ?_
    exact l_dg2 hw hI hlc hmd hcn 400 0 (by omega)
  | succ n ih =>
    intro i hi
    have hi2 : i < 6 := by omega
    refine EV.iload_n (pc := 6) dX4_digest_6 rfl ?_
    refine EV.bipush (pc := 7) (v := 6) dX4_digest_7 (by decide) ?_
    refine EV.icmp_ge (pc := 9) (tgt := 29) dX4_digest_9 (by decide) (fun q => absurd q (fun z => absurd ((nI_leI (a := 6) (b := i) (by omega) (by omega)).mp z) (by omega))) (fun _ => ?_)
    refine EV.lload_n (pc := 12) dX4_digest_12 rfl ?_
    refine EV.aload_n (pc := 13) dX4_digest_13 rfl ?_
    refine EV.getf (pc := 14) dX4_digest_14 fgX4_11 (by decide) hw.h0 rfl ?_
    refine EV.iload_n (pc := 17) dX4_digest_17 rfl ?_
    refine EV.aald (pc := 18) (t0 := 3) dX4_digest_18 rfl (by decide) hw.h1 (vp_in_nI (show i < 6 by omega) (by omega)) (v := .ref (ad (10 + 2 * i))) (by rw [nI_clamp (by omega)]; rfl) ?_
    refine EV.callSR1 (pc := 19) (M' := M_X4_digestPlate) dX4_digest_19 lkX4_234 okS_X4_digestPlate (m_digestPlate i _ hw hi2 (hI.1 i hi2)) (by decide) rfl rfl (Nat.le_of_ble_eq_true rfl) ?_
    refine EV.lstore_n (pc := 22) 1 dX4_digest_22 rfl (by decide) (by dsimp only [lst2, lno, lk] <;> rfl) ?_
    refine EV.iinc (pc := 23) dX4_digest_23 (by decide) rfl (by first | exact nI_inc _ | rfl) (by dsimp only [lst1, lk] <;> rfl) ?_
    refine EV.goto (pc := 26) (tgt := 6) dX4_digest_26 (by decide) ?_
    exact ih (i + 1) (by omega)

set_option maxHeartbeats 4000000 in
set_option maxRecDepth 100000 in
theorem p_digest {G : eG} {ad : Nat → Nat} {h : Nat → va_E} {s : St} {z : Zc} {hm : Nat → va_E} (hw : CW G ad s z hm h) (hI : Inv s)   : MC G M_X4_digest cX4_digest ad 54 [.ref (ad 0)] h (PC G ad hm (.long (f_digest s)) s) := by
  have hlc : s_lc s ≤ 12 := hI.2.2.2.2.2.2.2.1
  have hcn : s_cn s ≤ 4 := hI.2.2.1
  have hmd : s_md s ≤ 200 := hI.2.2.2.2.2.2.2.2.2.2.1
  refine MC.mono (post := IS (some (.long (f_digest s))) h) ?_ (fun v h2 q => ⟨q.1, z, by rw [q.2]; exact hw⟩)
  refine MC.of (by decide +kernel) (Nat.le_of_ble_eq_true rfl) (by dsimp only [linit, Nat.reduceSub, List.reduceReplicate] <;> rfl) ?_
  refine EV.ldc2 (pc := 0) dX4_digest_0 kcX4_232 ?_
  refine EV.lstore_n (pc := 3) 1 dX4_digest_3 rfl (by decide) (by dsimp only [lst2, lno, lk] <;> rfl) ?_
  refine EV.iconst (pc := 4) (v := 0) dX4_digest_4 (by decide) ?_
  refine EV.istore_n (pc := 5) 3 dX4_digest_5 rfl (by decide) (by dsimp only [lst1, lk] <;> rfl) ?_
  exact l_dg1 hw hI hlc hmd hcn 6 0 (by omega)

def csN (f g : Nat → Nat) (co : Nat) (d : Int) : Nat → Int64
  | 0 => 0
  | n + 1 => if 0 ≤ (n : Int) + d ∧ (n : Int) + d < co then csN f g co d n + lN (f n) * lN (g ((n : Int) + d).toNat) else csN f g co d n
theorem i_addn {i : Nat} {d : Int32} (hi : i < 100) (hd : -1000 ≤ d.toInt ∧ d.toInt ≤ 1000) : (nI i + d).toInt = (i : Int) + d.toInt := by
  conv => lhs; rw [nI_iI, ← iI_of d]
  rw [iI_add, iI_toInt (by omega) (by omega)]

set_option maxHeartbeats 4000000 in
set_option maxRecDepth 100000 in
theorem l_cross {G : eG} {ad : Nat → Nat} {h : Nat → va_E} {s : St} {z : Zc} {hm : Nat → va_E} (hw : CW G ad s z hm h) (k j : Nat) (d : Int32) (hk4 : k < 4) (hj4 : j < 4) (hcok : s_co s k ≤ 20) (hcoj : s_co s j ≤ 20) (hd : -1000 ≤ d.toInt ∧ d.toInt ≤ 1000) : ∀ (n i : Nat), i + n = s_co s k → EV G M_X4_crossSum cX4_crossSum none ad 54 (IS (some (.long (csN (s_nm s k) (s_nm s j) (s_co s j) d.toInt (s_co s k)))) h) 5 [some (.ref (ad (22 + 3 * k))), some (.ref (ad (22 + 3 * j))), some (.int d), some (.long (csN (s_nm s k) (s_nm s j) (s_co s j) d.toInt i)), none, some (.int (nI i))] [] h := by
  intro n
  induction n with
  | zero =>
    intro i hi
    have e : i = s_co s k := by omega
    subst e
    refine EV.iload (pc := 5) dX4_crossSum_5 rfl ?_
    refine EV.aload_n (pc := 7) dX4_crossSum_7 rfl ?_
    refine EV.getf (pc := 8) dX4_crossSum_8 fgX4_141 (show 22 + 3 * k < 54 by omega) (hw.kb' hk4) rfl ?_
    refine EV.icmp_ge (pc := 11) (tgt := 49) dX4_crossSum_11 (by decide) (fun _ => ?_) (fun q => absurd ((nI_leI (by omega) (by omega)).mpr (Nat.le_refl _)) q)
    refine EV.lload_n (pc := 49) dX4_crossSum_49 rfl ?_
    exact EV.lret (pc := 50) dX4_crossSum_50 trivial ⟨rfl, rfl⟩
  | succ n ih =>
    intro i hi
    have hi2 : i < s_co s k := by omega
    refine EV.iload (pc := 5) dX4_crossSum_5 rfl ?_
    refine EV.aload_n (pc := 7) dX4_crossSum_7 rfl ?_
    refine EV.getf (pc := 8) dX4_crossSum_8 fgX4_141 (show 22 + 3 * k < 54 by omega) (hw.kb' hk4) rfl ?_
    refine EV.icmp_ge (pc := 11) (tgt := 49) dX4_crossSum_11 (by decide) (fun q => absurd q (fun z => absurd ((nI_leI (a := s_co s k) (b := i) (by omega) (by omega)).mp z) (by omega))) (fun _ => ?_)
    have ed := i_addn (i := i) (d := d) (by omega) hd
    refine EV.aload_n (pc := 14) dX4_crossSum_14 rfl ?_
    refine EV.iload (pc := 15) dX4_crossSum_15 rfl ?_
    refine EV.iload_n (pc := 17) dX4_crossSum_17 rfl ?_
    refine EV.iadd (pc := 18) dX4_crossSum_18 ?_
    refine EV.callVR1 (pc := 19) (M' := M_X0_has) dX4_crossSum_19 lkX4_159 okV_X0_has (m_has (22 + 3 * j) (23 + 3 * j) (24 + 3 * j) (s_ca s j) (s_cb s j) (s_cr s j) (s_co s j) (s_nm s j) _ (by omega) (by omega) hcoj (hw.kb' hj4) (hw.nm j hj4)) (by decide) rfl rfl (Nat.le_of_ble_eq_true rfl) (show 22 + 3 * j < 54 by omega) (hw.kb' hj4) ?_
    refine EV.if_eq (pc := 22) (tgt := 43) dX4_crossSum_22 (by decide) (fun c22 => ?_) (fun c22 => ?_)
    · replace c22 := b2i_F c22
      refine EV.iinc (pc := 43) dX4_crossSum_43 (by decide) rfl (by first | exact nI_inc _ | rfl) (by dsimp only [lst1, lk] <;> rfl) ?_
      refine EV.goto (pc := 46) (tgt := 5) dX4_crossSum_46 (by decide) ?_
      rw [ed] at c22
      refine EV.eq rfl ?_ rfl rfl (ih (i + 1) (by omega))
      simp only [csN]
      first | (rw [if_pos c22]) | (rw [if_neg c22])
    · replace c22 := b2i_T c22
      refine EV.lload_n (pc := 25) dX4_crossSum_25 rfl ?_
      refine EV.aload_n (pc := 26) dX4_crossSum_26 rfl ?_
      refine EV.iload (pc := 27) dX4_crossSum_27 rfl ?_
      refine EV.callVR1 (pc := 29) (M' := M_X0_at) dX4_crossSum_29 lkX4_162 okV_X0_at (m_kat (22 + 3 * k) (23 + 3 * k) (24 + 3 * k) (s_ca s k) (s_cb s k) (s_cr s k) (s_co s k) (s_nm s k) _ (by omega) (by omega) hcok (hw.kb' hk4) (hw.nm k hk4)) (by decide) rfl rfl (Nat.le_of_ble_eq_true rfl) (show 22 + 3 * k < 54 by omega) (hw.kb' hk4) ?_
      refine EV.topl (y := lN (s_nm s k i)) (by rw [nI_t (by omega), nAt_in hi2]) ?_
      refine EV.aload_n (pc := 32) dX4_crossSum_32 rfl ?_
      refine EV.iload (pc := 33) dX4_crossSum_33 rfl ?_
      refine EV.iload_n (pc := 35) dX4_crossSum_35 rfl ?_
      refine EV.iadd (pc := 36) dX4_crossSum_36 ?_
      refine EV.callVR1 (pc := 37) (M' := M_X0_at) dX4_crossSum_37 lkX4_162 okV_X0_at (m_kat (22 + 3 * j) (23 + 3 * j) (24 + 3 * j) (s_ca s j) (s_cb s j) (s_cr s j) (s_co s j) (s_nm s j) _ (by omega) (by omega) hcoj (hw.kb' hj4) (hw.nm j hj4)) (by decide) rfl rfl (Nat.le_of_ble_eq_true rfl) (show 22 + 3 * j < 54 by omega) (hw.kb' hj4) ?_
      refine EV.topl (y := lN (s_nm s j ((i : Int) + d.toInt).toNat)) (by rw [ed] at c22 ⊢; unfold nAt; rw [if_pos c22]) ?_
      refine EV.lmul (pc := 40) dX4_crossSum_40 ?_
      refine EV.ladd (pc := 41) dX4_crossSum_41 ?_
      refine EV.lstore_n (pc := 42) 3 dX4_crossSum_42 rfl (by decide) (by dsimp only [lst2, lno, lk] <;> rfl) ?_
      refine EV.iinc (pc := 43) dX4_crossSum_43 (by decide) rfl (by first | exact nI_inc _ | rfl) (by dsimp only [lst1, lk] <;> rfl) ?_
      refine EV.goto (pc := 46) (tgt := 5) dX4_crossSum_46 (by decide) ?_
      rw [ed] at c22
      refine EV.eq rfl ?_ rfl rfl (ih (i + 1) (by omega))
      simp only [csN]
      first | (rw [if_pos c22]) | (rw [if_neg c22])

set_option maxHeartbeats 4000000 in
set_option maxRecDepth 100000 in
theorem m_crossSum {G : eG} {ad : Nat → Nat} {h : Nat → va_E} (k j : Nat) (d : Int32) {s : St} {z : Zc} {hm : Nat → va_E} (hw : CW G ad s z hm h) (hk4 : k < 4) (hj4 : j < 4) (hcok : s_co s k ≤ 20) (hcoj : s_co s j ≤ 20) (hd : -1000 ≤ d.toInt ∧ d.toInt ≤ 1000) : MC G M_X4_crossSum cX4_crossSum ad 54 [.ref (ad (22 + 3 * k)), .ref (ad (22 + 3 * j)), .int d] h (IS (some (.long (csN (s_nm s k) (s_nm s j) (s_co s j) d.toInt (s_co s k)))) h) := by
  refine MC.of (by decide +kernel) (Nat.le_of_ble_eq_true rfl) (by dsimp only [linit, Nat.reduceSub, List.reduceReplicate] <;> rfl) ?_
  refine EV.lconst (pc := 0) (v := 0) dX4_crossSum_0 (by decide) ?_
  refine EV.lstore_n (pc := 1) 3 dX4_crossSum_1 rfl (by decide) (by dsimp only [lst2, lno, lk] <;> rfl) ?_
  refine EV.iconst (pc := 2) (v := 0) dX4_crossSum_2 (by decide) ?_
  refine EV.istore (pc := 3) dX4_crossSum_3 (by decide) (by dsimp only [lst1, lk] <;> rfl) ?_
  exact l_cross hw k j d hk4 hj4 hcok hcoj hd (s_co s k) 0 (by omega)
