def dgN (f : Nat → Int64) : Nat → Int64 → Int64
  | 0, h => h
  | n + 1, h => 31 * dgN f n h + f n
def dgY (g : Nat → Nat → Int64) (w : Nat) : Nat → Int64 → Int64
  | 0, h => h
  | y + 1, h => dgN (g y) w (dgY g w y h)
def dgB (p : Nat → Bool) : Nat → Int64 → Int64
  | 0, h => h
  | n + 1, h => if p n = true then 31 * dgB p n h + lN n else dgB p n h
def dgP (s : St) (p : Nat) (h : Int64) : Int64 := if s_lost s p = true then 31 * h + -1 else dgY (fun y x => (s_ct s p (y * 20 + x)).toInt64) (s_w s p) (s_h s p) (31 * (31 * (31 * h + lN (s_lane s p)) + lN (s_w s p)) + lN (s_h s p))
def dgC (s : St) (c : Nat) (h : Int64) : Int64 := dgN (fun x => lN (s_nm s c x)) (s_co s c) (dgN (fun w => (g_fact s c w).toInt64) 8 h)
def dgPs (s : St) : Nat → Int64 → Int64
  | 0, h => h
  | n + 1, h => dgP s n (dgPs s n h)
def dgCs (s : St) : Nat → Int64 → Int64
  | 0, h => h
  | n + 1, h => dgC s n (dgCs s n h)
def f_digest (s : St) : Int64 := 31 * (31 * dgN (fun i => (s_ln s i).toInt64) (s_lc s) (dgCs s (s_cn s) (dgB (s_bad s) 400 (dgPs s 6 113))) + (s_sn s).toInt64) + lN (s_md s)
theorem nI_L {n : Nat} (h : n < 2147483648) : (nI n).toInt64 = lN n := nI_l (by omega)
theorem pAt_n {f : Nat → Int32} {w t x y : Nat} (hx : x < w) (hy : y < t) (hw : w ≤ 20) (ht : t ≤ 20) : pAt f w t (nI x).toInt (nI y).toInt = f (y * 20 + x) := by
  unfold pAt
  rw [nI_t (by omega), nI_t (by omega), if_pos ⟨by omega, by omega, by omega, by omega⟩]
  rfl

set_option maxHeartbeats 4000000 in
set_option maxRecDepth 100000 in
theorem l_dgp_in {G : eG} {ad : Nat → Nat} {h : Nat → va_E} {s : St} {z : Zc} {hm : Nat → va_E} (hw : CW G ad s z hm h) (k y : Nat) (h0 a0 a1 : Int64) (hk : k < 6) (hd : s_w s k ≤ 20 ∧ s_h s k ≤ 20 ∧ s_lane s k ≤ 2) (hy : y < s_h s k) (post : eP) (kx : ∀ (v : Option Value), EV G M_X4_digestPlate cX4_digestPlate none ad 54 post 85 [some (.long h0), none, some (.ref (ad (10 + 2 * k))), some (.long (dgN ((fun y x => (s_ct s k (y * 20 + x)).toInt64) y) (s_w s k) a1)), none, some (.int (nI y)), v] [] h) : ∀ (n x : Nat), x + n = s_w s k → EV G M_X4_digestPlate cX4_digestPlate none ad 54 post 56 [some (.long h0), none, some (.ref (ad (10 + 2 * k))), some (.long (dgN ((fun y x => (s_ct s k (y * 20 + x)).toInt64) y) x a1)), none, some (.int (nI y)), some (.int (nI x))] [] h := by
  intro n
  induction n with
  | zero =>
    intro x hx
    have e : x = s_w s k := by omega
    subst e
    refine EV.iload (pc := 56) dX4_digestPlate_56 rfl ?_
    refine EV.aload_n (pc := 58) dX4_digestPlate_58 rfl ?_
    refine EV.getf (pc := 59) dX4_digestPlate_59 fgX4_93 (show 10 + 2 * k < 54 by omega) (hw.pl' hk) rfl ?_
    refine EV.icmp_ge (pc := 62) (tgt := 85) dX4_digestPlate_62 (by decide) (fun _ => ?_) (fun q => absurd ((nI_leI (by omega) (by omega)).mpr (Nat.le_refl _)) q)
    exact kx _
  | succ n ih =>
    intro x hx
    refine EV.iload (pc := 56) dX4_digestPlate_56 rfl ?_
    refine EV.aload_n (pc := 58) dX4_digestPlate_58 rfl ?_
    refine EV.getf (pc := 59) dX4_digestPlate_59 fgX4_93 (show 10 + 2 * k < 54 by omega) (hw.pl' hk) rfl ?_
    refine EV.icmp_ge (pc := 62) (tgt := 85) dX4_digestPlate_62 (by decide) (fun q => absurd q (fun z => absurd ((nI_leI (by omega) (by omega)).mp z) (by omega))) (fun _ => ?_)
    refine EV.lload_n (pc := 65) dX4_digestPlate_65 rfl ?_
    refine EV.aload_n (pc := 66) dX4_digestPlate_66 rfl ?_
    refine EV.iload (pc := 67) dX4_digestPlate_67 rfl ?_
    refine EV.iload (pc := 69) dX4_digestPlate_69 rfl ?_
    refine EV.callVR1 (pc := 71) (M' := M_X2_at) dX4_digestPlate_71 lkX4_96 okV_X2_at (m_pat (10 + 2 * k) (11 + 2 * k) (b2i (s_lost s k)) (s_lane s k) (s_w s k) (s_h s k) (s_ct s k) _ _ (by omega) (by omega) hd.1 hd.2.1 (hw.pl' hk) (hw.ct k hk)) (by decide) rfl rfl (Nat.le_of_ble_eq_true rfl) (show 10 + 2 * k < 54 by omega) (hw.pl' hk) ?_
    refine EV.topi (y := s_ct s k (y * 20 + x)) (pAt_n (by omega) hy hd.1 hd.2.1) ?_
    refine EV.i2l (pc := 74) dX4_digestPlate_74 ?_
    refine EV.callSR1 (pc := 75) (M' := M_X4_mix) dX4_digestPlate_75 lkX4_238 okS_X4_mix (m_mix _ _) (by decide) rfl rfl (Nat.le_of_ble_eq_true rfl) ?_
    refine EV.lstore_n (pc := 78) 3 dX4_digestPlate_78 rfl (by decide) (by dsimp only [lst2, lno, lk] <;> rfl) ?_
    refine EV.iinc (pc := 79) dX4_digestPlate_79 (by decide) rfl (by first | exact nI_inc _ | rfl) (by dsimp only [lst1, lk] <;> rfl) ?_
    refine EV.goto (pc := 82) (tgt := 56) dX4_digestPlate_82 (by decide) ?_
    exact ih (x + 1) (by omega)

set_option maxHeartbeats 4000000 in
set_option maxRecDepth 100000 in
theorem l_dgp_out {G : eG} {ad : Nat → Nat} {h : Nat → va_E} {s : St} {z : Zc} {hm : Nat → va_E} (hw : CW G ad s z hm h) (k : Nat) (h0 a0 : Int64) (hk : k < 6) (hd : s_w s k ≤ 20 ∧ s_h s k ≤ 20 ∧ s_lane s k ≤ 2) : ∀ (n y : Nat) (v : Option Value), y + n = s_h s k → EV G M_X4_digestPlate cX4_digestPlate none ad 54 (IS (some (.long (dgY (fun y x => (s_ct s k (y * 20 + x)).toInt64) (s_w s k) (s_h s k) a0))) h) 44 [some (.long h0), none, some (.ref (ad (10 + 2 * k))), some (.long (dgY (fun y x => (s_ct s k (y * 20 + x)).toInt64) (s_w s k) y a0)), none, some (.int (nI y)), v] [] h := by
  intro n
  induction n with
  | zero =>
    intro y v hy
    have e : y = s_h s k := by omega
    subst e
    refine EV.iload (pc := 44) dX4_digestPlate_44 rfl ?_
    refine EV.aload_n (pc := 46) dX4_digestPlate_46 rfl ?_
    refine EV.getf (pc := 47) dX4_digestPlate_47 fgX4_90 (show 10 + 2 * k < 54 by omega) (hw.pl' hk) rfl ?_
    refine EV.icmp_ge (pc := 50) (tgt := 91) dX4_digestPlate_50 (by decide) (fun _ => ?_) (fun q => absurd ((nI_leI (by omega) (by omega)).mpr (Nat.le_refl _)) q)
    refine EV.lload_n (pc := 91) dX4_digestPlate_91 rfl ?_
    exact EV.lret (pc := 92) dX4_digestPlate_92 trivial ⟨rfl, rfl⟩
  | succ n ih =>
    intro y v hy
    refine EV.iload (pc := 44) dX4_digestPlate_44 rfl ?_
    refine EV.aload_n (pc := 46) dX4_digestPlate_46 rfl ?_
    refine EV.getf (pc := 47) dX4_digestPlate_47 fgX4_90 (show 10 + 2 * k < 54 by omega) (hw.pl' hk) rfl ?_
    refine EV.icmp_ge (pc := 50) (tgt := 91) dX4_digestPlate_50 (by decide) (fun q => absurd q (fun z => absurd ((nI_leI (by omega) (by omega)).mp z) (by omega))) (fun _ => ?_)
    refine EV.iconst (pc := 53) (v := 0) dX4_digestPlate_53 (by decide) ?_
    refine EV.istore (pc := 54) dX4_digestPlate_54 (by decide) (by dsimp only [lst1, lk] <;> rfl) ?_
    refine l_dgp_in hw k y h0 a0 (dgY (fun y x => (s_ct s k (y * 20 + x)).toInt64) (s_w s k) y a0) hk hd (by omega) _ (fun v => ?_) (s_w s k) 0 (by omega)
    refine EV.iinc (pc := 85) dX4_digestPlate_85 (by decide) rfl (by first | exact nI_inc _ | rfl) (by dsimp only [lst1, lk] <;> rfl) ?_
    refine EV.goto (pc := 88) (tgt := 44) dX4_digestPlate_88 (by decide) ?_
    exact ih (y + 1) _ (by omega)

set_option maxHeartbeats 4000000 in
set_option maxRecDepth 100000 in
theorem m_digestPlate {G : eG} {ad : Nat → Nat} {h : Nat → va_E} (k : Nat) (h0 : Int64) {s : St} {z : Zc} {hm : Nat → va_E} (hw : CW G ad s z hm h) (hk : k < 6) (hd : s_w s k ≤ 20 ∧ s_h s k ≤ 20 ∧ s_lane s k ≤ 2) : MC G M_X4_digestPlate cX4_digestPlate ad 54 [.long h0, .ref (ad (10 + 2 * k))] h (IS (some (.long (dgP s k h0))) h) := by
  refine MC.of (by decide +kernel) (Nat.le_of_ble_eq_true rfl) (by dsimp only [linit, Nat.reduceSub, List.reduceReplicate] <;> rfl) ?_
  refine EV.aload_n (pc := 0) dX4_digestPlate_0 rfl ?_
  refine EV.getf (pc := 1) dX4_digestPlate_1 fgX4_71 (show 10 + 2 * k < 54 by omega) (hw.pl' hk) rfl ?_
  refine EV.if_eq (pc := 4) (tgt := 15) dX4_digestPlate_4 (by decide) (fun c4 => ?_) (fun c4 => ?_)
  · replace c4 := b2i_eq c4
    refine EV.lload_n (pc := 15) dX4_digestPlate_15 rfl ?_
    refine EV.aload_n (pc := 16) dX4_digestPlate_16 rfl ?_
    refine EV.getf (pc := 17) dX4_digestPlate_17 fgX4_75 (show 10 + 2 * k < 54 by omega) (hw.pl' hk) rfl ?_
    refine EV.i2l (pc := 20) dX4_digestPlate_20 ?_
    refine EV.topl (y := lN (s_lane s k)) (nI_L (by omega)) ?_
    refine EV.callSR1 (pc := 21) (M' := M_X4_mix) dX4_digestPlate_21 lkX4_238 okS_X4_mix (m_mix _ _) (by decide) rfl rfl (Nat.le_of_ble_eq_true rfl) ?_
    refine EV.aload_n (pc := 24) dX4_digestPlate_24 rfl ?_
    refine EV.getf (pc := 25) dX4_digestPlate_25 fgX4_93 (show 10 + 2 * k < 54 by omega) (hw.pl' hk) rfl ?_
    refine EV.i2l (pc := 28) dX4_digestPlate_28 ?_
    refine EV.topl (y := lN (s_w s k)) (nI_L (by omega)) ?_
    refine EV.callSR1 (pc := 29) (M' := M_X4_mix) dX4_digestPlate_29 lkX4_238 okS_X4_mix (m_mix _ _) (by decide) rfl rfl (Nat.le_of_ble_eq_true rfl) ?_
    refine EV.aload_n (pc := 32) dX4_digestPlate_32 rfl ?_
    refine EV.getf (pc := 33) dX4_digestPlate_33 fgX4_90 (show 10 + 2 * k < 54 by omega) (hw.pl' hk) rfl ?_
    refine EV.i2l (pc := 36) dX4_digestPlate_36 ?_
    refine EV.topl (y := lN (s_h s k)) (nI_L (by omega)) ?_
    refine EV.callSR1 (pc := 37) (M' := M_X4_mix) dX4_digestPlate_37 lkX4_238 okS_X4_mix (m_mix _ _) (by decide) rfl rfl (Nat.le_of_ble_eq_true rfl) ?_
    refine EV.lstore_n (pc := 40) 3 dX4_digestPlate_40 rfl (by decide) (by dsimp only [lst2, lno, lk] <;> rfl) ?_
    refine EV.iconst (pc := 41) (v := 0) dX4_digestPlate_41 (by decide) ?_
    refine EV.istore (pc := 42) dX4_digestPlate_42 (by decide) (by dsimp only [lst1, lk] <;> rfl) ?_
    have e : dgP s k h0 = dgY (fun y x => (s_ct s k (y * 20 + x)).toInt64) (s_w s k) (s_h s k) (31 * (31 * (31 * h0 + lN (s_lane s k)) + lN (s_w s k)) + lN (s_h s k)) := by unfold dgP; rw [if_neg (by simp [c4])]
    rw [e]
    exact l_dgp_out hw k h0 _ hk hd (s_h s k) 0 none (by omega)
  · replace c4 := b2i_ne c4
    refine EV.lload_n (pc := 7) dX4_digestPlate_7 rfl ?_
    refine EV.ldc2 (pc := 8) dX4_digestPlate_8 kcX4_165 ?_
    refine EV.callSR1 (pc := 11) (M' := M_X4_mix) dX4_digestPlate_11 lkX4_238 okS_X4_mix (m_mix _ _) (by decide) rfl rfl (Nat.le_of_ble_eq_true rfl) ?_
    refine EV.lret (pc := 14) dX4_digestPlate_14 trivial ?_
    exact ⟨congrArg (fun z => some (Value.long z)) (by unfold dgP; rw [if_pos c4]), rfl⟩

set_option maxHeartbeats 4000000 in
set_option maxRecDepth 100000 in
theorem l_dgc2 {G : eG} {ad : Nat → Nat} {h : Nat → va_E} {s : St} {z : Zc} {hm : Nat → va_E} (hw : CW G ad s z hm h) (k : Nat) (h0 : Int64) (hk4 : k < 4) (hco : s_co s k ≤ 20) : ∀ (n i : Nat), i + n = s_co s k → EV G M_X4_digestComb cX4_digestComb none ad 54 (IS (some (.long (dgC s k h0))) h) 33 [some (.long h0), none, some (.ref (ad (22 + 3 * k))), some (.long (dgN (fun x => lN (s_nm s k x)) i (dgN (fun w => (g_fact s k w).toInt64) 8 h0))), none, some (.int (nI i))] [] h := by
  intro n
  induction n with
  | zero =>
    intro i hi
    have e : i = s_co s k := by omega
    subst e
    refine EV.iload (pc := 33) dX4_digestComb_33 rfl ?_
    refine EV.aload_n (pc := 35) dX4_digestComb_35 rfl ?_
    refine EV.getf (pc := 36) dX4_digestComb_36 fgX4_141 (show 22 + 3 * k < 54 by omega) (hw.kb' hk4) rfl ?_
    refine EV.icmp_ge (pc := 39) (tgt := 59) dX4_digestComb_39 (by decide) (fun _ => ?_) (fun q => absurd ((nI_leI (by omega) (by omega)).mpr (Nat.le_refl _)) q)
    refine EV.lload_n (pc := 59) dX4_digestComb_59 rfl ?_
    exact EV.lret (pc := 60) dX4_digestComb_60 trivial ⟨rfl, rfl⟩
  | succ n ih =>
    intro i hi
    have hi2 : i < s_co s k := by omega
    refine EV.iload (pc := 33) dX4_digestComb_33 rfl ?_
    refine EV.aload_n (pc := 35) dX4_digestComb_35 rfl ?_
    refine EV.getf (pc := 36) dX4_digestComb_36 fgX4_141 (show 22 + 3 * k < 54 by omega) (hw.kb' hk4) rfl ?_
    refine EV.icmp_ge (pc := 39) (tgt := 59) dX4_digestComb_39 (by decide) (fun q => absurd q (fun z => absurd ((nI_leI (a := s_co s k) (b := i) (by omega) (by omega)).mp z) (by omega))) (fun _ => ?_)
    refine EV.lload_n (pc := 42) dX4_digestComb_42 rfl ?_
    refine EV.aload_n (pc := 43) dX4_digestComb_43 rfl ?_
    refine EV.iload (pc := 44) dX4_digestComb_44 rfl ?_
    refine EV.callVR1 (pc := 46) (M' := M_X0_at) dX4_digestComb_46 lkX4_162 okV_X0_at (m_kat (22 + 3 * k) (23 + 3 * k) (24 + 3 * k) (s_ca s k) (s_cb s k) (s_cr s k) (s_co s k) (s_nm s k) _ (by omega) (by omega) hco (hw.kb' hk4) (hw.nm k hk4)) (by decide) rfl rfl (Nat.le_of_ble_eq_true rfl) (show 22 + 3 * k < 54 by omega) (hw.kb' hk4) ?_
    refine EV.topl (y := lN (s_nm s k i)) (by rw [nI_t (by omega), nAt_in hi2]) ?_
    refine EV.callSR1 (pc := 49) (M' := M_X4_mix) dX4_digestComb_49 lkX4_238 okS_X4_mix (m_mix _ _) (by decide) rfl rfl (Nat.le_of_ble_eq_true rfl) ?_
    refine EV.lstore_n (pc := 52) 3 dX4_digestComb_52 rfl (by decide) (by dsimp only [lst2, lno, lk] <;> rfl) ?_
    refine EV.iinc (pc := 53) dX4_digestComb_53 (by decide) rfl (by first | exact nI_inc _ | rfl) (by dsimp only [lst1, lk] <;> rfl) ?_
    refine EV.goto (pc := 56) (tgt := 33) dX4_digestComb_56 (by decide) ?_
    exact ih (i + 1) (by omega)

set_option maxHeartbeats 4000000 in
set_option maxRecDepth 100000 in
theorem l_dgc1 {G : eG} {ad : Nat → Nat} {h : Nat → va_E} {s : St} {z : Zc} {hm : Nat → va_E} (hw : CW G ad s z hm h) (k : Nat) (h0 : Int64) (hk4 : k < 4) (hco : s_co s k ≤ 20) : ∀ (n i : Nat), i + n = 8 → EV G M_X4_digestComb cX4_digestComb none ad 54 (IS (some (.long (dgC s k h0))) h) 5 [some (.long h0), none, some (.ref (ad (22 + 3 * k))), some (.long (dgN (fun w => (g_fact s k w).toInt64) i h0)), none, some (.int (nI i))] [] h := by
  intro n
  induction n with
  | zero =>
    intro i hi
    have e : i = 8 := by omega
    subst e
    refine EV.iload (pc := 5) dX4_digestComb_5 rfl ?_
    refine EV.bipush (pc := 7) (v := 8) dX4_digestComb_7 (by decide) ?_
    refine EV.icmp_ge (pc := 9) (tgt := 30) dX4_digestComb_9 (by decide) (fun _ => ?_) (fun q => absurd ((nI_leI (a := 8) (b := 8) (by omega) (by omega)).mpr (by omega)) q)
    refine EV.iconst (pc := 30) (v := 0) dX4_digestComb_30 (by decide) ?_
    refine EV.istore (pc := 31) dX4_digestComb_31 (by decide) (by dsimp only [lst1, lk] <;> rfl) ?_
    exact l_dgc2 hw k h0 hk4 hco (s_co s k) 0 (by omega)
  | succ n ih =>
    intro i hi
    have hi2 : i < 8 := by omega
    refine EV.iload (pc := 5) dX4_digestComb_5 rfl ?_
    refine EV.bipush (pc := 7) (v := 8) dX4_digestComb_7 (by decide) ?_
    refine EV.icmp_ge (pc := 9) (tgt := 30) dX4_digestComb_9 (by decide) (fun q => absurd q (fun z => absurd ((nI_leI (a := 8) (b := i) (by omega) (by omega)).mp z) (by omega))) (fun _ => ?_)
    refine EV.lload_n (pc := 12) dX4_digestComb_12 rfl ?_
    refine EV.aload_n (pc := 13) dX4_digestComb_13 rfl ?_
    refine EV.iload (pc := 14) dX4_digestComb_14 rfl ?_
    refine EV.callSR1 (pc := 16) (M' := M_X4_fact) dX4_digestComb_16 lkX4_126 okS_X4_fact (m_fact hw k i hk4 (by omega)) (by decide) rfl rfl (Nat.le_of_ble_eq_true rfl) ?_
    refine EV.i2l (pc := 19) dX4_digestComb_19 ?_
    refine EV.callSR1 (pc := 20) (M' := M_X4_mix) dX4_digestComb_20 lkX4_238 okS_X4_mix (m_mix _ _) (by decide) rfl rfl (Nat.le_of_ble_eq_true rfl) ?_
    refine EV.lstore_n (pc := 23) 3 dX4_digestComb_23 rfl (by decide) (by dsimp only [lst2, lno, lk] <;> rfl) ?_
    refine EV.iinc (pc := 24) dX4_digestComb_24 (by decide) rfl (by first | exact nI_inc _ | rfl) (by dsimp only [lst1, lk] <;> rfl) ?_
    refine EV.goto (pc := 27) (tgt := 5) dX4_digestComb_27 (by decide) ?_
    exact ih (i + 1) (by omega)

set_option maxHeartbeats 4000000 in
set_option maxRecDepth 100000 in
theorem m_digestComb {G : eG} {ad : Nat → Nat} {h : Nat → va_E} (k : Nat) (h0 : Int64) {s : St} {z : Zc} {hm : Nat → va_E} (hw : CW G ad s z hm h) (hk4 : k < 4) (hco : s_co s k ≤ 20) : MC G M_X4_digestComb cX4_digestComb ad 54 [.long h0, .ref (ad (22 + 3 * k))] h (IS (some (.long (dgC s k h0))) h) := by
  refine MC.of (by decide +kernel) (Nat.le_of_ble_eq_true rfl) (by dsimp only [linit, Nat.reduceSub, List.reduceReplicate] <;> rfl) ?_
  refine EV.lload_n (pc := 0) dX4_digestComb_0 rfl ?_
  refine EV.lstore_n (pc := 1) 3 dX4_digestComb_1 rfl (by decide) (by dsimp only [lst2, lno, lk] <;> rfl) ?_
  refine EV.iconst (pc := 2) (v := 0) dX4_digestComb_2 (by decide) ?_
  refine EV.istore (pc := 3) dX4_digestComb_3 (by decide) (by dsimp only [lst1, lk] <;> rfl) ?_
  exact l_dgc1 hw k h0 hk4 hco 8 0 (by omega)
