/-- sums over rows, from lo on -/
def sR (g : Nat → Int) (lo : Nat) : Nat → Int
  | 0 => 0
  | n + 1 => sR g lo n + g (lo + n)
theorem sR_ge {g : Nat → Int} {lo : Nat} (hg : ∀ y, 0 ≤ g y) : ∀ n, 0 ≤ sR g lo n
  | 0 => Int.le_refl 0
  | n + 1 => by
    have h1 := sR_ge (lo := lo) hg n
    have h2 := hg (lo + n)
    simp only [sR]
    omega
theorem sR_le {g : Nat → Int} {lo : Nat} {b : Nat} (hg : ∀ y, g y ≤ b) : ∀ n, sR g lo n ≤ (n : Int) * b
  | 0 => by simp [sR]
  | n + 1 => by
    have h1 := sR_le (lo := lo) hg n
    have h2 := hg (lo + n)
    have h3 : ((n + 1 : Nat) : Int) * b = (n : Int) * b + b := by rw [Int.natCast_add, Int.add_mul]; simp
    simp only [sR]
    omega
theorem lB_in (v : Int32) : 0 ≤ lBnd v ∧ lBnd v ≤ 100000 := by
  unfold lBnd
  split
  · omega
  · split <;> omega
/-- a band's first row, and how many rows it has, in column x of plate p -/
def rLo (s : St) (c p x : Nat) : Nat := (bLo (s_ca s c) (s_cb s c) (s_cr s c) x (s_w s p)).toNat
def rHi (s : St) (c p x : Nat) : Int := bHi (s_ca s c) (s_cb s c) (s_cr s c) x (s_w s p) (s_h s p)
def rM (s : St) (c p x : Nat) : Nat := (rHi s c p x + 1 - rLo s c p x).toNat
theorem rLo_in {s : St} {c p x : Nat} (hI : Inv s) (hc : c < 4) (hp : p < 6) (hx : x < s_w s p) : bLo (s_ca s c) (s_cb s c) (s_cr s c) x (s_w s p) = rLo s c p x ∧ rLo s c p x ≤ 19 := by
  have h1 := hI.2.2.2.1 c hc
  have h2 := bMid_in (x := x) (w := s_w s p) h1.1 h1.2.1 hx
  unfold rLo bLo
  split <;> omega
theorem rHi_in {s : St} {c p x : Nat} (hI : Inv s) (hc : c < 4) (hp : p < 6) (hx : x < s_w s p) : -1 ≤ rHi s c p x ∧ rHi s c p x ≤ (s_h s p : Int) - 1 ∧ rHi s c p x ≤ 19 := by
  have h1 := hI.2.2.2.1 c hc
  have h2 := bMid_in (x := x) (w := s_w s p) h1.1 h1.2.1 hx
  have h3 := hI.1 p hp
  unfold rHi bHi
  split <;> omega
def vR (s : St) (p x y : Nat) : Int := if s_bad s (y * 20 + x) = true then 0 else lBnd (s_ct s p (y * 20 + x))
theorem vR_in (s : St) (p x y : Nat) : 0 ≤ vR s p x y ∧ vR s p x y ≤ 100000 := by
  unfold vR
  split
  · omega
  · exact lB_in _
def lgt (s : St) (p x lo n : Nat) : Int := sR (vR s p x) lo n
def mom (s : St) (p x lo n : Nat) : Int := sR (fun y => vR s p x y * (16 * y)) lo n
def midL (s : St) (c p x : Nat) : Int := if 0 < lgt s p x (rLo s c p x) (rM s c p x) then mom s p x (rLo s c p x) (rM s c p x) / lgt s p x (rLo s c p x) (rM s c p x) else -1
theorem mom_in (s : St) (p x lo : Nat) (hi : Int) (hh : hi ≤ 19) : ∀ n : Nat, (n = 0 ∨ (lo : Int) + n ≤ hi + 1) → 0 ≤ mom s p x lo n ∧ mom s p x lo n ≤ 304 * lgt s p x lo n
  | 0, _ => by simp [mom, lgt, sR]
  | n + 1, h => by
    have h1 := mom_in s p x lo hi hh n (by omega)
    have h2 := vR_in s p x (lo + n)
    have h3 : 0 ≤ vR s p x (lo + n) * (16 * ((lo + n : Nat) : Int)) := Int.mul_nonneg h2.1 (by omega)
    have h4 : vR s p x (lo + n) * (16 * ((lo + n : Nat) : Int)) ≤ vR s p x (lo + n) * 304 := Int.mul_le_mul_of_nonneg_left (by omega) h2.1
    simp only [mom, lgt, sR] at h1 ⊢
    omega
theorem lgt_in (s : St) (p x lo n : Nat) : 0 ≤ lgt s p x lo n ∧ lgt s p x lo n ≤ (n : Int) * 100000 := ⟨sR_ge (fun y => (vR_in s p x y).1) n, sR_le (fun y => (vR_in s p x y).2) n⟩
theorem rM_in {s : St} {c p x : Nat} (hI : Inv s) (hc : c < 4) (hp : p < 6) (hx : x < s_w s p) : rM s c p x ≤ 20 ∧ (rM s c p x = 0 ∨ (rLo s c p x : Int) + rM s c p x ≤ rHi s c p x + 1) ∧ rHi s c p x < (rLo s c p x : Int) + rM s c p x := by
  have h1 := rHi_in hI hc hp hx
  unfold rM
  omega
theorem midL_in {s : St} {c p x : Nat} (hI : Inv s) (hc : c < 4) (hp : p < 6) (hx : x < s_w s p) : midL s c p x = -1 ∨ (0 ≤ midL s c p x ∧ midL s c p x ≤ 304) := by
  have h1 := rHi_in hI hc hp hx
  have h2 := rM_in hI hc hp hx
  have h3 := mom_in s p x (rLo s c p x) (rHi s c p x) h1.2.2 (rM s c p x) h2.2.1
  unfold midL
  split
  · rename_i h0
    right
    constructor
    · exact Int.ediv_nonneg h3.1 (by omega)
    · exact Int.ediv_le_of_le_mul h0 (by omega)
  · left; rfl

set_option maxHeartbeats 4000000 in
set_option maxRecDepth 100000 in
theorem l_mid {G : eG} {ad : Nat → Nat} {h : Nat → va_E} {s : St} {z : Zc} {hm : Nat → va_E} (hw : CW G ad s z hm h) (c p x : Nat) (hI : Inv s) (hc : c < 4) (hp : p < 6) (hx : x < s_w s p) : ∀ (n i : Nat), i + n = rM s c p x → EV G M_X4_middleOfLight cX4_middleOfLight none ad 54 (IS (some (.int (iI (midL s c p x)))) h) 22 [some (.ref (ad 0)), some (.ref (ad (22 + 3 * c))), some (.ref (ad (10 + 2 * p))), some (.int (nI x)), some (.long (jI (lgt s p x (rLo s c p x) i))), none, some (.long (jI (mom s p x (rLo s c p x) i))), none, some (.int (iI (rHi s c p x))), some (.int (nI (rLo s c p x + i)))] [] h := by
  have hb := hI.2.2.2.1 c hc
  have hd := hI.1 p hp
  have r1 := rLo_in hI hc hp hx
  have r2 := rHi_in hI hc hp hx
  have r3 := rM_in hI hc hp hx
  intro n
  induction n with
  | zero =>
    intro i hi
    have e : i = rM s c p x := by omega
    subst e
    refine EV.iload (pc := 22) dX4_middleOfLight_22 rfl ?_
    refine EV.iload (pc := 24) dX4_middleOfLight_24 rfl ?_
    refine EV.icmp_gt (pc := 26) (tgt := 76) dX4_middleOfLight_26 (by decide) (fun _ => ?_) (fun q => absurd (by rw [nI_iI, iI_lt (by omega) (by omega) (by omega) (by omega)]; omega) q)
    have b1 := lgt_in s p x (rLo s c p x) (rM s c p x)
    have b2 := mom_in s p x (rLo s c p x) (rHi s c p x) r2.2.2 (rM s c p x) r3.2.1
    refine EV.lload (pc := 76) dX4_middleOfLight_76 rfl ?_
    refine EV.lconst (pc := 78) (v := 0) dX4_middleOfLight_78 (by decide) ?_
    refine EV.lcmp_le (pc := 79) (tgt := 94) dX4_middleOfLight_79 dX4_middleOfLight_80 (by decide) (fun c79 => ?_) (fun c79 => ?_)
    · refine EV.iconst (pc := 94) (v := -1) dX4_middleOfLight_94 (by decide) ?_
      refine EV.iret (pc := 95) dX4_middleOfLight_95 trivial ?_
      rw [Int64.le_iff_toInt_le, j_l0, jI_toInt (by omega) (by omega)] at c79
      refine ⟨congrArg (fun z => some (Value.int z)) ?_, rfl⟩
      unfold midL
      first | (rw [if_pos (by omega), jI_toInt (by omega) (by omega), jI_toInt (by omega) (by omega), jI_i]) | (rw [if_neg (by omega)]; rfl)
    · refine EV.lload (pc := 83) dX4_middleOfLight_83 rfl ?_
      refine EV.lload (pc := 85) dX4_middleOfLight_85 rfl ?_
      refine EV.callSR1 (pc := 87) (M' := M_J9_floorDiv_f86c9) dX4_middleOfLight_87 lkX4_253 okS_J9_floorDiv_f86c9 (m_floorDivJ _ _ (by rw [Int64.le_iff_toInt_le, j_l0] at c79; omega)) (by decide) rfl rfl (Nat.le_of_ble_eq_true rfl) ?_
      refine EV.l2i (pc := 90) dX4_middleOfLight_90 ?_
      refine EV.goto (pc := 91) (tgt := 95) dX4_middleOfLight_91 (by decide) ?_
      refine EV.iret (pc := 95) dX4_middleOfLight_95 trivial ?_
      rw [Int64.le_iff_toInt_le, j_l0, jI_toInt (by omega) (by omega)] at c79
      refine ⟨congrArg (fun z => some (Value.int z)) ?_, rfl⟩
      unfold midL
      first | (rw [if_pos (by omega), jI_toInt (by omega) (by omega), jI_toInt (by omega) (by omega), jI_i]) | (rw [if_neg (by omega)]; rfl)
  | succ n ih =>
    intro i hi
    have hi2 : i < rM s c p x := by omega
    refine EV.iload (pc := 22) dX4_middleOfLight_22 rfl ?_
    refine EV.iload (pc := 24) dX4_middleOfLight_24 rfl ?_
    refine EV.icmp_gt (pc := 26) (tgt := 76) dX4_middleOfLight_26 (by decide) (fun q => absurd q (by rw [nI_iI, iI_lt (by omega) (by omega) (by omega) (by omega)]; omega)) (fun _ => ?_)
    refine EV.aload_n (pc := 29) dX4_middleOfLight_29 rfl ?_
    refine EV.iload_n (pc := 30) dX4_middleOfLight_30 rfl ?_
    refine EV.iload (pc := 31) dX4_middleOfLight_31 rfl ?_
    refine EV.callVR1 (pc := 33) (M' := M_X4_isBad) dX4_middleOfLight_33 lkX4_246 okV_X4_isBad (m_isBad x (rLo s c p x + i) hw (by omega) (by omega)) (by decide) rfl rfl (Nat.le_of_ble_eq_true rfl) (by decide) hw.h0 ?_
    refine EV.if_ne (pc := 36) (tgt := 70) dX4_middleOfLight_36 (by decide) (fun c36 => ?_) (fun c36 => ?_)
    · replace c36 := b2i_ne c36
      refine EV.iinc (pc := 70) dX4_middleOfLight_70 (by decide) rfl (by first | exact nI_inc _ | rfl) (by dsimp only [lst1, lk] <;> rfl) ?_
      refine EV.goto (pc := 73) (tgt := 22) dX4_middleOfLight_73 (by decide) ?_
      refine EV.eq rfl ?_ rfl rfl (ih (i + 1) (by omega))
      have e1 : vR s p x (rLo s c p x + i) = if s_bad s ((rLo s c p x + i) * 20 + x) = true then 0 else lBnd (s_ct s p ((rLo s c p x + i) * 20 + x)) := rfl
      simp only [lgt, mom, sR, e1, c36, if_true, Bool.false_eq_true, if_false, Int.zero_mul, Int.add_zero, Nat.add_assoc]
    · replace c36 := b2i_eq c36
      refine EV.lload (pc := 39) dX4_middleOfLight_39 rfl ?_
      refine EV.aload_n (pc := 41) dX4_middleOfLight_41 rfl ?_
      refine EV.iload_n (pc := 42) dX4_middleOfLight_42 rfl ?_
      refine EV.iload (pc := 43) dX4_middleOfLight_43 rfl ?_
      refine EV.callVR1 (pc := 45) (M' := M_X2_lightAt) dX4_middleOfLight_45 lkX4_249 okV_X2_lightAt (m_plight (10 + 2 * p) (11 + 2 * p) (b2i (s_lost s p)) (s_lane s p) (s_w s p) (s_h s p) (s_ct s p) _ _ (by omega) (by omega) hd.1 hd.2.1 (hw.pl' hp) (hw.ct p hp)) (by decide) rfl rfl (Nat.le_of_ble_eq_true rfl) (show 10 + 2 * p < 54 by omega) (hw.pl' hp) ?_
      refine EV.topl (y := jI (lBnd (s_ct s p ((rLo s c p x + i) * 20 + x)))) (by rw [pAt_n hx (by omega) hd.1 hd.2.1]) ?_
      refine EV.ladd (pc := 48) dX4_middleOfLight_48 ?_
      refine EV.topl (y := jI (lgt s p x (rLo s c p x) i + lBnd (s_ct s p ((rLo s c p x + i) * 20 + x)))) (jI_add _ _) ?_
      refine EV.lstore (pc := 49) dX4_middleOfLight_49 (by decide) (by dsimp only [lst2, lno, lk] <;> rfl) ?_
      refine EV.lload (pc := 51) dX4_middleOfLight_51 rfl ?_
      refine EV.aload_n (pc := 53) dX4_middleOfLight_53 rfl ?_
      refine EV.iload_n (pc := 54) dX4_middleOfLight_54 rfl ?_
      refine EV.iload (pc := 55) dX4_middleOfLight_55 rfl ?_
      refine EV.callVR1 (pc := 57) (M' := M_X2_lightAt) dX4_middleOfLight_57 lkX4_249 okV_X2_lightAt (m_plight (10 + 2 * p) (11 + 2 * p) (b2i (s_lost s p)) (s_lane s p) (s_w s p) (s_h s p) (s_ct s p) _ _ (by omega) (by omega) hd.1 hd.2.1 (hw.pl' hp) (hw.ct p hp)) (by decide) rfl rfl (Nat.le_of_ble_eq_true rfl) (show 10 + 2 * p < 54 by omega) (hw.pl' hp) ?_
      refine EV.topl (y := jI (lBnd (s_ct s p ((rLo s c p x + i) * 20 + x)))) (by rw [pAt_n hx (by omega) hd.1 hd.2.1]) ?_
      refine EV.bipush (pc := 60) (v := 16) dX4_middleOfLight_60 (by decide) ?_
      refine EV.iload (pc := 62) dX4_middleOfLight_62 rfl ?_
      refine EV.imul (pc := 64) dX4_middleOfLight_64 ?_
      refine EV.i2l (pc := 65) dX4_middleOfLight_65 ?_
      refine EV.topl (y := jI (16 * ((rLo s c p x + i : Nat) : Int))) (by rw [show (16 : Int32) = iI 16 from iI_lit 16, nI_iI, iI_mul, iI_l (by omega) (by omega)]) ?_
      refine EV.lmul (pc := 66) dX4_middleOfLight_66 ?_
      refine EV.ladd (pc := 67) dX4_middleOfLight_67 ?_
      refine EV.topl (y := jI (mom s p x (rLo s c p x) i + lBnd (s_ct s p ((rLo s c p x + i) * 20 + x)) * (16 * ((rLo s c p x + i : Nat) : Int)))) (by rw [jI_mul, jI_add]) ?_
      refine EV.lstore (pc := 68) dX4_middleOfLight_68 (by decide) (by dsimp only [lst2, lno, lk] <;> rfl) ?_
      refine EV.iinc (pc := 70) dX4_middleOfLight_70 (by decide) rfl (by first | exact nI_inc _ | rfl) (by dsimp only [lst1, lk] <;> rfl) ?_
      refine EV.goto (pc := 73) (tgt := 22) dX4_middleOfLight_73 (by decide) ?_
      refine EV.eq rfl ?_ rfl rfl (ih (i + 1) (by omega))
      have e1 : vR s p x (rLo s c p x + i) = if s_bad s ((rLo s c p x + i) * 20 + x) = true then 0 else lBnd (s_ct s p ((rLo s c p x + i) * 20 + x)) := rfl
      simp only [lgt, mom, sR, e1, c36, if_true, Bool.false_eq_true, if_false, Int.zero_mul, Int.add_zero, Nat.add_assoc]

set_option maxHeartbeats 4000000 in
set_option maxRecDepth 100000 in
theorem m_midL {G : eG} {ad : Nat → Nat} {h : Nat → va_E}  {s : St} {z : Zc} {hm : Nat → va_E} (hw : CW G ad s z hm h) (c p x : Nat) (hI : Inv s) (hc : c < 4) (hp : p < 6) (hx : x < s_w s p) : MC G M_X4_middleOfLight cX4_middleOfLight ad 54 [.ref (ad 0), .ref (ad (22 + 3 * c)), .ref (ad (10 + 2 * p)), .int (nI x)] h (IS (some (.int (iI (midL s c p x)))) h) := by
  refine MC.of (by decide +kernel) (Nat.le_of_ble_eq_true rfl) (by dsimp only [linit, Nat.reduceSub, List.reduceReplicate] <;> rfl) ?_
  have hb := hI.2.2.2.1 c hc
  have hd := hI.1 p hp
  have r1 := rLo_in hI hc hp hx
  have r2 := rHi_in hI hc hp hx
  have r3 := rM_in hI hc hp hx
  refine EV.lconst (pc := 0) (v := 0) dX4_middleOfLight_0 (by decide) ?_
  refine EV.lstore (pc := 1) dX4_middleOfLight_1 (by decide) (by dsimp only [lst2, lno, lk] <;> rfl) ?_
  refine EV.lconst (pc := 3) (v := 0) dX4_middleOfLight_3 (by decide) ?_
  refine EV.lstore (pc := 4) dX4_middleOfLight_4 (by decide) (by dsimp only [lst2, lno, lk] <;> rfl) ?_
  refine EV.aload_n (pc := 6) dX4_middleOfLight_6 rfl ?_
  refine EV.iload_n (pc := 7) dX4_middleOfLight_7 rfl ?_
  refine EV.aload_n (pc := 8) dX4_middleOfLight_8 rfl ?_
  refine EV.callVR1 (pc := 9) (M' := M_X0_greatestRow) dX4_middleOfLight_9 lkX4_134 okV_X0_greatestRow (m_greatestRow (22 + 3 * c) (10 + 2 * p) _ _ _ (b2i (s_lost s p)) (nI (s_lane s p)) (s_ca s c) (s_cb s c) (s_cr s c) (s_co s c) x (s_w s p) (s_h s p) (by omega) (by omega) hb.1 hb.2.1 hb.2.2.1 hx hd.1 hd.2.1 (hw.kb' hc) (hw.pl' hp)) (by decide) rfl rfl (Nat.le_of_ble_eq_true rfl) (show 22 + 3 * c < 54 by omega) (hw.kb' hc) ?_
  refine EV.istore (pc := 12) dX4_middleOfLight_12 (by decide) (by dsimp only [lst1, lk] <;> rfl) ?_
  refine EV.aload_n (pc := 14) dX4_middleOfLight_14 rfl ?_
  refine EV.iload_n (pc := 15) dX4_middleOfLight_15 rfl ?_
  refine EV.aload_n (pc := 16) dX4_middleOfLight_16 rfl ?_
  refine EV.callVR1 (pc := 17) (M' := M_X0_leastRow) dX4_middleOfLight_17 lkX4_130 okV_X0_leastRow (m_leastRow (22 + 3 * c) (10 + 2 * p) _ _ _ (b2i (s_lost s p)) (nI (s_lane s p)) (s_ca s c) (s_cb s c) (s_cr s c) (s_co s c) x (s_w s p) (s_h s p) (by omega) (by omega) hb.1 hb.2.1 hb.2.2.1 hx hd.1 hd.2.1 (hw.kb' hc) (hw.pl' hp)) (by decide) rfl rfl (Nat.le_of_ble_eq_true rfl) (show 22 + 3 * c < 54 by omega) (hw.kb' hc) ?_
  refine EV.topi (y := nI (rLo s c p x + 0)) (by rw [r1.1, nI_iI]; rfl) ?_
  refine EV.istore (pc := 20) dX4_middleOfLight_20 (by decide) (by dsimp only [lst1, lk] <;> rfl) ?_
  exact l_mid hw c p x hI hc hp hx (rM s c p x) 0 (by omega)

def stA (s : St) (c : Nat) (l : Int) : St := if l = -1 then s else S_ca s (va_up (s_ca s) c l.toNat)
def stB (s : St) (c : Nat) (r : Int) : St := if r = -1 then s else S_cb s (va_up (s_cb s) c r.toNat)
def g_trace (s : St) (c p : Nat) : Int32 × St := if s_lost s p = true then (-11, f_caus s 1) else (1, stB (stA s c (midL s c p 0)) c (midL s c p (s_w s p - 1)))
def f_trace (s : St) (c p : Int32) : Int32 × St := if (0 ≤ c.toInt ∧ c.toInt < s_cn s) ∧ (0 ≤ p.toInt ∧ p.toInt ≤ 5) then g_trace s c.toInt.toNat p.toInt.toNat else (-101, s)

set_option maxHeartbeats 4000000 in
set_option maxRecDepth 100000 in
theorem p_trace {G : eG} {ad : Nat → Nat} {h : Nat → va_E} {s : St} {z : Zc} {hm : Nat → va_E} (hw : CW G ad s z hm h) (hI : Inv s) (u v : Int32)  : MC G M_X4_trace cX4_trace ad 54 [.ref (ad 0), .int u, .int v] h (PC G ad hm (.int (f_trace s u v).1) (f_trace s u v).2) := by
  have hcn : s_cn s ≤ 4 := hI.2.2.1
  by_cases hpc : 0 ≤ u.toInt ∧ u.toInt < s_cn s
  · obtain ⟨c, rfl, ec, lc⟩ := i_nat hpc.1
    have hc : c < s_cn s := by omega
    have hc4 : c < 4 := by omega
    have hbc := hI.2.2.2.1 c hc4
    by_cases hpp : 0 ≤ v.toInt ∧ v.toInt ≤ 5
    · obtain ⟨p, rfl, ep, lp⟩ := i_nat hpp.1
      have hp : p < 6 := by omega
      have hdp := hI.1 p hp
      have e0 : f_trace s (nI c) (nI p) = g_trace s c p := by unfold f_trace; rw [if_pos ⟨hpc, hpp⟩, nI_tn (by omega), nI_tn (by omega)]
      rw [e0]
      refine MC.of (by decide +kernel) (Nat.le_of_ble_eq_true rfl) (by dsimp only [linit, Nat.reduceSub, List.reduceReplicate] <;> rfl) ?_
      refine EV.aload_n (pc := 0) dX4_trace_0 rfl ?_
      refine EV.iload_n (pc := 1) dX4_trace_1 rfl ?_
      refine EV.callVR1 (pc := 2) (M' := M_X4_combOf) dX4_trace_2 lkX4_122 okV_X4_combOf (m_combOf c hw hc hcn) (by decide) rfl rfl (Nat.le_of_ble_eq_true rfl) (by decide) hw.h0 ?_
      refine EV.astore_n (pc := 5) 3 dX4_trace_5 rfl (by decide) (by dsimp only [lst1, lk] <;> rfl) ?_
      refine EV.aload_n (pc := 6) dX4_trace_6 rfl ?_
      refine EV.iload_n (pc := 7) dX4_trace_7 rfl ?_
      refine EV.callVR1 (pc := 8) (M' := M_X4_plateOf) dX4_trace_8 lkX4_55 okV_X4_plateOf (m_plateOf p hw hp) (by decide) rfl rfl (Nat.le_of_ble_eq_true rfl) (by decide) hw.h0 ?_
      refine EV.astore (pc := 11) dX4_trace_11 (by decide) (by dsimp only [lst1, lk] <;> rfl) ?_
      refine EV.aload_n (pc := 13) dX4_trace_13 rfl ?_
      refine EV.ifnull (pc := 14) dX4_trace_14 ?_
      refine EV.aload (pc := 17) dX4_trace_17 rfl ?_
      refine EV.ifnonnull (pc := 19) (tgt := 25) dX4_trace_19 (by decide) ?_
      refine EV.aload (pc := 25) dX4_trace_25 rfl ?_
      refine EV.getf (pc := 27) dX4_trace_27 fgX4_71 (show 10 + 2 * p < 54 by omega) (hw.pl' hp) rfl ?_
      refine EV.if_eq (pc := 30) (tgt := 39) dX4_trace_30 (by decide) (fun c30 => ?_) (fun c30 => ?_)
      · replace c30 := b2i_eq c30
        have hw1 := (hI.2.2.2.2.2.2.2.2.2.2.2.1 p hp c30).1
        have q1 := midL_in (x := 0) hI hc4 hp (by omega)
        have q2 := midL_in (x := s_w s p - 1) hI hc4 hp (by omega)
        have e1 : (iI (midL s c p 0)).toInt = midL s c p 0 := iI_toInt (by omega) (by omega)
        have e2 : (iI (midL s c p (s_w s p - 1))).toInt = midL s c p (s_w s p - 1) := iI_toInt (by omega) (by omega)
        refine EV.aload_n (pc := 39) dX4_trace_39 rfl ?_
        refine EV.aload_n (pc := 40) dX4_trace_40 rfl ?_
        refine EV.aload (pc := 41) dX4_trace_41 rfl ?_
        refine EV.iconst (pc := 43) (v := 0) dX4_trace_43 (by decide) ?_
        refine EV.callVR1 (pc := 44) (M' := M_X4_middleOfLight) dX4_trace_44 lkX4_137 okV_X4_middleOfLight (m_midL hw c p 0 hI hc4 hp (by omega)) (by decide) rfl rfl (Nat.le_of_ble_eq_true rfl) (by decide) hw.h0 ?_
        refine EV.istore (pc := 47) dX4_trace_47 (by decide) (by dsimp only [lst1, lk] <;> rfl) ?_
        refine EV.aload_n (pc := 49) dX4_trace_49 rfl ?_
        refine EV.aload_n (pc := 50) dX4_trace_50 rfl ?_
        refine EV.aload (pc := 51) dX4_trace_51 rfl ?_
        refine EV.aload (pc := 53) dX4_trace_53 rfl ?_
        refine EV.getf (pc := 55) dX4_trace_55 fgX4_93 (show 10 + 2 * p < 54 by omega) (hw.pl' hp) rfl ?_
        refine EV.iconst (pc := 58) (v := 1) dX4_trace_58 (by decide) ?_
        refine EV.isub (pc := 59) dX4_trace_59 ?_
        refine EV.topi (y := nI (s_w s p - 1)) (nI_m1 (by omega)) ?_
        refine EV.callVR1 (pc := 60) (M' := M_X4_middleOfLight) dX4_trace_60 lkX4_137 okV_X4_middleOfLight (m_midL hw c p (s_w s p - 1) hI hc4 hp (by omega)) (by decide) rfl rfl (Nat.le_of_ble_eq_true rfl) (by decide) hw.h0 ?_
        refine EV.istore (pc := 63) dX4_trace_63 (by decide) (by dsimp only [lst1, lk] <;> rfl) ?_
        refine EV.iload (pc := 65) dX4_trace_65 rfl ?_
        refine EV.iconst (pc := 67) (v := -1) dX4_trace_67 (by decide) ?_
        refine EV.icmp_eq (pc := 68) (tgt := 77) dX4_trace_68 (by decide) (fun c68 => ?_) (fun c68 => ?_)
        · try simp only [← Int32.toInt_inj, i_m1, e1, e2] at c68
          have hw : CW G ad (stA s c (midL s c p 0)) z hm h := by first | exact hw | (unfold stA; rw [if_pos (by omega)]; exact hw)
          refine EV.iload (pc := 77) dX4_trace_77 rfl ?_
          refine EV.iconst (pc := 79) (v := -1) dX4_trace_79 (by decide) ?_
          refine EV.icmp_eq (pc := 80) (tgt := 89) dX4_trace_80 (by decide) (fun c80 => ?_) (fun c80 => ?_)
          · try simp only [← Int32.toInt_inj, i_m1, e1, e2] at c80
            have hw : CW G ad (stB (stA s c (midL s c p 0)) c (midL s c p (s_w s p - 1))) z hm h := by first | exact hw | (unfold stB; rw [if_pos (by omega)]; exact hw)
            refine EV.iconst (pc := 89) (v := 1) dX4_trace_89 (by decide) ?_
            refine EV.iret (pc := 90) dX4_trace_90 trivial ?_
            exact PC.i (by unfold g_trace; rw [if_neg (by simp [c30])]) hw
          · try simp only [← Int32.toInt_inj, i_m1, e1, e2] at c80
            refine EV.aload_n (pc := 83) dX4_trace_83 rfl ?_
            refine EV.iload (pc := 84) dX4_trace_84 rfl ?_
            refine EV.putf (pc := 86) dX4_trace_86 fpX4_116 (show 22 + 3 * c < 54 by omega) (hw.kb' hc4) rfl rfl (Nat.le_of_ble_eq_true rfl) ?_
            refine EV.abs (Pr := CW G ad (stB (stA s c (midL s c p 0)) c (midL s c p (s_w s p - 1))) z hm) (by
              have q := hw.set_b c (midL s c p (s_w s p - 1)).toNat hc4
              unfold stB; rw [if_neg (by omega)]
              rw [show nI (midL s c p (s_w s p - 1)).toNat = iI (midL s c p (s_w s p - 1)) by rw [nI_iI, Int.toNat_of_nonneg (by omega)]] at q
              exact q) (fun h hw => ?_)
            have hw : CW G ad (stB (stA s c (midL s c p 0)) c (midL s c p (s_w s p - 1))) z hm h := by first | exact hw | (unfold stB; rw [if_pos (by omega)]; exact hw)
            refine EV.iconst (pc := 89) (v := 1) dX4_trace_89 (by decide) ?_
            refine EV.iret (pc := 90) dX4_trace_90 trivial ?_
            exact PC.i (by unfold g_trace; rw [if_neg (by simp [c30])]) hw
        · try simp only [← Int32.toInt_inj, i_m1, e1, e2] at c68
          refine EV.aload_n (pc := 71) dX4_trace_71 rfl ?_
          refine EV.iload (pc := 72) dX4_trace_72 rfl ?_
          refine EV.putf (pc := 74) dX4_trace_74 fpX4_113 (show 22 + 3 * c < 54 by omega) (hw.kb' hc4) rfl rfl (Nat.le_of_ble_eq_true rfl) ?_
          refine EV.abs (Pr := CW G ad (stA s c (midL s c p 0)) z hm) (by
              have q := hw.set_a c (midL s c p 0).toNat hc4
              unfold stA; rw [if_neg (by omega)]
              rw [show nI (midL s c p 0).toNat = iI (midL s c p 0) by rw [nI_iI, Int.toNat_of_nonneg (by omega)]] at q
              exact q) (fun h hw => ?_)
          have hw : CW G ad (stA s c (midL s c p 0)) z hm h := by first | exact hw | (unfold stA; rw [if_pos (by omega)]; exact hw)
          refine EV.iload (pc := 77) dX4_trace_77 rfl ?_
          refine EV.iconst (pc := 79) (v := -1) dX4_trace_79 (by decide) ?_
          refine EV.icmp_eq (pc := 80) (tgt := 89) dX4_trace_80 (by decide) (fun c80 => ?_) (fun c80 => ?_)
          · try simp only [← Int32.toInt_inj, i_m1, e1, e2] at c80
            have hw : CW G ad (stB (stA s c (midL s c p 0)) c (midL s c p (s_w s p - 1))) z hm h := by first | exact hw | (unfold stB; rw [if_pos (by omega)]; exact hw)
            refine EV.iconst (pc := 89) (v := 1) dX4_trace_89 (by decide) ?_
            refine EV.iret (pc := 90) dX4_trace_90 trivial ?_
            exact PC.i (by unfold g_trace; rw [if_neg (by simp [c30])]) hw
          · try simp only [← Int32.toInt_inj, i_m1, e1, e2] at c80
            refine EV.aload_n (pc := 83) dX4_trace_83 rfl ?_
            refine EV.iload (pc := 84) dX4_trace_84 rfl ?_
            refine EV.putf (pc := 86) dX4_trace_86 fpX4_116 (show 22 + 3 * c < 54 by omega) (hw.kb' hc4) rfl rfl (Nat.le_of_ble_eq_true rfl) ?_
            refine EV.abs (Pr := CW G ad (stB (stA s c (midL s c p 0)) c (midL s c p (s_w s p - 1))) z hm) (by
              have q := hw.set_b c (midL s c p (s_w s p - 1)).toNat hc4
              unfold stB; rw [if_neg (by omega)]
              rw [show nI (midL s c p (s_w s p - 1)).toNat = iI (midL s c p (s_w s p - 1)) by rw [nI_iI, Int.toNat_of_nonneg (by omega)]] at q
              exact q) (fun h hw => ?_)
            have hw : CW G ad (stB (stA s c (midL s c p 0)) c (midL s c p (s_w s p - 1))) z hm h := by first | exact hw | (unfold stB; rw [if_pos (by omega)]; exact hw)
            refine EV.iconst (pc := 89) (v := 1) dX4_trace_89 (by decide) ?_
            refine EV.iret (pc := 90) dX4_trace_90 trivial ?_
            exact PC.i (by unfold g_trace; rw [if_neg (by simp [c30])]) hw
      · replace c30 := b2i_ne c30
        refine EV.aload_n (pc := 33) dX4_trace_33 rfl ?_
        refine EV.iconst (pc := 34) (v := 1) dX4_trace_34 (by decide) ?_
        refine EV.callVPi (pc := 35) (M' := M_X4_caused) dX4_trace_35 lkX4_63 okV_X4_caused (m_caused 1 hw (by omega)) (by decide) rfl rfl (Nat.le_of_ble_eq_true rfl) (by decide) hw.h0 (fun h hw => ?_)
        refine EV.topi (y := -11) (by decide +kernel) ?_
        refine EV.iret (pc := 38) dX4_trace_38 trivial ?_
        exact PC.i (by unfold g_trace; rw [if_pos c30]) hw
    · have e0 : f_trace s (nI c) v = (-101, s) := by unfold f_trace; rw [if_neg (fun q => hpp q.2)]
      rw [e0]
      refine MC.of (by decide +kernel) (Nat.le_of_ble_eq_true rfl) (by dsimp only [linit, Nat.reduceSub, List.reduceReplicate] <;> rfl) ?_
      refine EV.aload_n (pc := 0) dX4_trace_0 rfl ?_
      refine EV.iload_n (pc := 1) dX4_trace_1 rfl ?_
      refine EV.callVR1 (pc := 2) (M' := M_X4_combOf) dX4_trace_2 lkX4_122 okV_X4_combOf (m_combOf c hw hc hcn) (by decide) rfl rfl (Nat.le_of_ble_eq_true rfl) (by decide) hw.h0 ?_
      refine EV.astore_n (pc := 5) 3 dX4_trace_5 rfl (by decide) (by dsimp only [lst1, lk] <;> rfl) ?_
      refine EV.aload_n (pc := 6) dX4_trace_6 rfl ?_
      refine EV.iload_n (pc := 7) dX4_trace_7 rfl ?_
      refine EV.callVR1 (pc := 8) (M' := M_X4_plateOf) dX4_trace_8 lkX4_55 okV_X4_plateOf (m_plateOfN v hw hpp) (by decide) rfl rfl (Nat.le_of_ble_eq_true rfl) (by decide) hw.h0 ?_
      refine EV.astoreN (pc := 11) dX4_trace_11 (by decide) (by dsimp only [lst1, lk] <;> rfl) ?_
      refine EV.aload_n (pc := 13) dX4_trace_13 rfl ?_
      refine EV.ifnull (pc := 14) dX4_trace_14 ?_
      refine EV.aloadN (pc := 17) dX4_trace_17 rfl ?_
      refine EV.ifnonnullN (pc := 19) dX4_trace_19 ?_
      refine EV.bipush (pc := 22) (v := -101) dX4_trace_22 (by decide) ?_
      exact EV.iret (pc := 24) dX4_trace_24 trivial ⟨rfl, z, hw⟩
  · by_cases hpp : 0 ≤ v.toInt ∧ v.toInt ≤ 5
    · obtain ⟨p, rfl, ep, lp⟩ := i_nat hpp.1
      have hp : p < 6 := by omega
      have hdp := hI.1 p hp
      have e0 : f_trace s u (nI p) = (-101, s) := by unfold f_trace; rw [if_neg (fun q => hpc q.1)]
      rw [e0]
      refine MC.of (by decide +kernel) (Nat.le_of_ble_eq_true rfl) (by dsimp only [linit, Nat.reduceSub, List.reduceReplicate] <;> rfl) ?_
      refine EV.aload_n (pc := 0) dX4_trace_0 rfl ?_
      refine EV.iload_n (pc := 1) dX4_trace_1 rfl ?_
      refine EV.callVR1 (pc := 2) (M' := M_X4_combOf) dX4_trace_2 lkX4_122 okV_X4_combOf (m_combOfN u hw hpc hcn) (by decide) rfl rfl (Nat.le_of_ble_eq_true rfl) (by decide) hw.h0 ?_
      refine EV.astoreN_n (pc := 5) 3 dX4_trace_5 rfl (by decide) (by dsimp only [lst1, lk] <;> rfl) ?_
      refine EV.aload_n (pc := 6) dX4_trace_6 rfl ?_
      refine EV.iload_n (pc := 7) dX4_trace_7 rfl ?_
      refine EV.callVR1 (pc := 8) (M' := M_X4_plateOf) dX4_trace_8 lkX4_55 okV_X4_plateOf (m_plateOf p hw hp) (by decide) rfl rfl (Nat.le_of_ble_eq_true rfl) (by decide) hw.h0 ?_
      refine EV.astore (pc := 11) dX4_trace_11 (by decide) (by dsimp only [lst1, lk] <;> rfl) ?_
      refine EV.aloadN_n (pc := 13) dX4_trace_13 rfl ?_
      refine EV.ifnullN (pc := 14) (tgt := 22) dX4_trace_14 (by decide) ?_
      refine EV.bipush (pc := 22) (v := -101) dX4_trace_22 (by decide) ?_
      exact EV.iret (pc := 24) dX4_trace_24 trivial ⟨rfl, z, hw⟩
    · have e0 : f_trace s u v = (-101, s) := by unfold f_trace; rw [if_neg (fun q => hpc q.1)]
      rw [e0]
      refine MC.of (by decide +kernel) (Nat.le_of_ble_eq_true rfl) (by dsimp only [linit, Nat.reduceSub, List.reduceReplicate] <;> rfl) ?_
      refine EV.aload_n (pc := 0) dX4_trace_0 rfl ?_
      refine EV.iload_n (pc := 1) dX4_trace_1 rfl ?_
      refine EV.callVR1 (pc := 2) (M' := M_X4_combOf) dX4_trace_2 lkX4_122 okV_X4_combOf (m_combOfN u hw hpc hcn) (by decide) rfl rfl (Nat.le_of_ble_eq_true rfl) (by decide) hw.h0 ?_
      refine EV.astoreN_n (pc := 5) 3 dX4_trace_5 rfl (by decide) (by dsimp only [lst1, lk] <;> rfl) ?_
      refine EV.aload_n (pc := 6) dX4_trace_6 rfl ?_
      refine EV.iload_n (pc := 7) dX4_trace_7 rfl ?_
      refine EV.callVR1 (pc := 8) (M' := M_X4_plateOf) dX4_trace_8 lkX4_55 okV_X4_plateOf (m_plateOfN v hw hpp) (by decide) rfl rfl (Nat.le_of_ble_eq_true rfl) (by decide) hw.h0 ?_
      refine EV.astoreN (pc := 11) dX4_trace_11 (by decide) (by dsimp only [lst1, lk] <;> rfl) ?_
      refine EV.aloadN_n (pc := 13) dX4_trace_13 rfl ?_
      refine EV.ifnullN (pc := 14) (tgt := 22) dX4_trace_14 (by decide) ?_
      refine EV.bipush (pc := 22) (v := -101) dX4_trace_22 (by decide) ?_
      exact EV.iret (pc := 24) dX4_trace_24 trivial ⟨rfl, z, hw⟩
