/-- a cell's bounded count; whether a row counts (flat f, column x); what it weighs, row e left out -/
def cB (s : St) (p x y : Nat) : Int := lBnd (s_ct s p (y * 20 + x))
def uR (s : St) (f x y : Nat) : Bool := !(s_bad s (y * 20 + x)) && decide (0 < cB s f x y)
def uE (s : St) (f x : Nat) (e : Int) (y : Nat) : Bool := uR s f x y && decide ((y : Int) ≠ e)
def wF (s : St) (f x : Nat) (e : Int) (y : Nat) : Int := if uE s f x e y = true then cB s f x y else 0
def wS (s : St) (f p x : Nat) (e : Int) (y : Nat) : Int := if uE s f x e y = true then cB s p x y else 0
def dR (s : St) (f x : Nat) (e : Int) (lo n : Nat) : Int := sR (fun y => if uE s f x e y = true then 1 else 0) lo n
def dF (s : St) (f x : Nat) (e : Int) (lo n : Nat) : Int := sR (wF s f x e) lo n
def dL (s : St) (f p x : Nat) (e : Int) (lo n : Nat) : Int := sR (wS s f p x e) lo n
def dQ (s : St) (f x : Nat) (e : Int) (lo n : Nat) : Int := sR (fun y => wF s f x e y * wF s f x e y) lo n
def dP (s : St) (f p x : Nat) (e : Int) (lo n : Nat) : Int := sR (fun y => wF s f x e y * wS s f p x e y) lo n
theorem cB_in (s : St) (p x y : Nat) : 0 ≤ cB s p x y ∧ cB s p x y ≤ 100000 := lB_in _
theorem wF_in (s : St) (f x : Nat) (e : Int) (y : Nat) : 0 ≤ wF s f x e y ∧ wF s f x e y ≤ 100000 := by
  unfold wF
  split
  · exact cB_in _ _ _ _
  · omega
theorem wS_in (s : St) (f p x : Nat) (e : Int) (y : Nat) : 0 ≤ wS s f p x e y ∧ wS s f p x e y ≤ 100000 := by
  unfold wS
  split
  · exact cB_in _ _ _ _
  · omega
noncomputable def zT (z : Zc) (a : Int32) (b c d e : Int64) : Zc := (c_pp z, a, b, c, d, e, c_bi z, c_ba z, c_bb z, c_bf z)
theorem zT_over (z : Zc) (a : Int32) (b c d e : Int64) (a2 : Int32) (b2 c2 d2 e2 : Int64) : zT (zT z a b c d e) a2 b2 c2 d2 e2 = zT z a2 b2 c2 d2 e2 := rfl
theorem iI_z : iI 0 = 0 := by decide +kernel
theorem jI_z : jI 0 = 0 := by decide +kernel
noncomputable def zD (z : Zc) (s : St) (f p x : Nat) (e : Int) (lo n : Nat) : Zc := zT z (iI (dR s f x e lo n)) (jI (dL s f p x e lo n)) (jI (dF s f x e lo n)) (jI (dQ s f x e lo n)) (jI (dP s f p x e lo n))
theorem uE_no1 {s : St} {f x : Nat} {e : Int} {y : Nat} (h : (y : Int) = e) : uE s f x e y = false := by
  unfold uE
  rw [decide_eq_false (by simpa using h), Bool.and_false]
theorem uE_no2 {s : St} {f x : Nat} {e : Int} {y : Nat} (h : uR s f x y = false) : uE s f x e y = false := by
  unfold uE
  rw [h, Bool.false_and]
theorem uE_yes {s : St} {f x : Nat} {e : Int} {y : Nat} (h1 : uR s f x y = true) (h2 : ¬ (y : Int) = e) : uE s f x e y = true := by
  unfold uE
  rw [h1, decide_eq_true h2]
  rfl
theorem zD_skip {z : Zc} {s : St} {f p x : Nat} {e : Int} {lo i : Nat} (eu : uE s f x e (lo + i) = false) : zD z s f p x e lo (i + 1) = zD z s f p x e lo i := by
  simp only [zD, dR, dF, dL, dQ, dP, sR, wF, wS, eu, Bool.false_eq_true, if_false, Int.add_zero, Int.mul_zero]
theorem zD_take {z : Zc} {s : St} {f p x : Nat} {e : Int} {lo i : Nat} (eu : uE s f x e (lo + i) = true) : zD z s f p x e lo (i + 1) = zT z (iI (dR s f x e lo i) + 1) (jI (dL s f p x e lo i) + jI (cB s p x (lo + i))) (jI (dF s f x e lo i) + jI (cB s f x (lo + i))) (jI (dQ s f x e lo i) + jI (cB s f x (lo + i)) * jI (cB s f x (lo + i))) (jI (dP s f p x e lo i) + jI (cB s f x (lo + i)) * jI (cB s p x (lo + i))) := by
  rw [show (1 : Int32) = iI 1 from iI_lit 1, iI_add, jI_mul, jI_mul, jI_add, jI_add, jI_add, jI_add]
  simp only [zD, dR, dF, dL, dQ, dP, sR, wF, wS, eu, if_true]

theorem CW.set_T {G : eG} {ad : Nat → Nat} {s : St} {z : Zc} {hm h : Nat → va_E} (hw : CW G ad s z hm h) (a : Int32) (b c d e : Int64)  : CW G ad s (zT z a b c d e) hm (va_up h 8 (.inr (3, [.int a, .long b, .long c, .long d, .long e]))) := by
  refine ⟨?_, ?_, ?_, ?_, ?_, ?_, ?_, ?_, ?_, ?_, ?_, ?_, ?_, ?_, ?_, ?_⟩
  · exact (va_up_n (by omega)).trans hw.h0
  · exact (va_up_n (by omega)).trans hw.h1
  · exact (va_up_n (by omega)).trans hw.h2
  · exact (va_up_n (by omega)).trans hw.h3
  · exact (va_up_n (by omega)).trans hw.h4
  · exact (va_up_n (by omega)).trans hw.h5
  · exact (va_up_n (by omega)).trans hw.h6
  · exact (va_up_n (by omega)).trans hw.h7
  · exact va_up_s
  · exact (va_up_n (by omega)).trans hw.h9
  · exact fun j hj => (va_up_n (by omega)).trans (hw.pl j hj)
  · exact fun j hj => (va_up_n (by omega)).trans (hw.ct j hj)
  · exact fun j hj => (va_up_n (by omega)).trans (hw.kb j hj)
  · exact fun j hj => (va_up_n (by omega)).trans (hw.nm j hj)
  · exact fun j hj => (va_up_n (by omega)).trans (hw.lw j hj)
  · exact fun j hj => (va_up_n (by omega)).trans (hw.fr j hj)
set_option maxHeartbeats 4000000 in
set_option maxRecDepth 100000 in
theorem m_counts {G : eG} {ad : Nat → Nat} {h : Nat → va_E}  {s : St} {z : Zc} {hm : Nat → va_E} (hw : CW G ad s z hm h) (f x y : Nat) (hI : Inv s) (hf : f < 6) (hx : x < s_w s f) (hy : y < s_h s f) : MC G M_X4_counts cX4_counts ad 54 [.ref (ad 0), .ref (ad (10 + 2 * f)), .int (nI x), .int (nI y)] h (IS (some (.int (b2i (uR s f x y)))) h) := by
  refine MC.of (by decide +kernel) (Nat.le_of_ble_eq_true rfl) (by dsimp only [linit, Nat.reduceSub, List.reduceReplicate] <;> rfl) ?_
  have hdf := hI.1 f hf
  refine EV.aload_n (pc := 0) dX4_counts_0 rfl ?_
  refine EV.iload_n (pc := 1) dX4_counts_1 rfl ?_
  refine EV.iload_n (pc := 2) dX4_counts_2 rfl ?_
  refine EV.callVR1 (pc := 3) (M' := M_X4_isBad) dX4_counts_3 lkX4_246 okV_X4_isBad (m_isBad x y hw (by omega) (by omega)) (by decide) rfl rfl (Nat.le_of_ble_eq_true rfl) (by decide) hw.h0 ?_
  refine EV.if_ne (pc := 6) (tgt := 24) dX4_counts_6 (by decide) (fun c6 => ?_) (fun c6 => ?_)
  · replace c6 := b2i_ne c6
    refine EV.iconst (pc := 24) (v := 0) dX4_counts_24 (by decide) ?_
    refine EV.iret (pc := 25) dX4_counts_25 (by rfl) ?_
    have hb := cB_in s f x y
    refine ⟨congrArg (fun z => some (Value.int z)) ?_, rfl⟩
    unfold uR
    first | (rw [Int64.le_iff_toInt_le, j_l0, jI_toInt (by omega) (by omega)] at c16; rw [c6]; first | (rw [decide_eq_true (show 0 < cB s f x y by omega)]; rfl) | (rw [decide_eq_false (show ¬ 0 < cB s f x y by omega)]; rfl)) | (rw [c6]; rfl)
  · replace c6 := b2i_eq c6
    refine EV.aload_n (pc := 9) dX4_counts_9 rfl ?_
    refine EV.iload_n (pc := 10) dX4_counts_10 rfl ?_
    refine EV.iload_n (pc := 11) dX4_counts_11 rfl ?_
    refine EV.callVR1 (pc := 12) (M' := M_X2_lightAt) dX4_counts_12 lkX4_249 okV_X2_lightAt (m_plight (10 + 2 * f) (11 + 2 * f) (b2i (s_lost s f)) (s_lane s f) (s_w s f) (s_h s f) (s_ct s f) _ _ (by omega) (by omega) hdf.1 hdf.2.1 (hw.pl' hf) (hw.ct f hf)) (by decide) rfl rfl (Nat.le_of_ble_eq_true rfl) (show 10 + 2 * f < 54 by omega) (hw.pl' hf) ?_
    refine EV.topl (y := jI (cB s f x y)) (by rw [pAt_n hx hy hdf.1 hdf.2.1]; rfl) ?_
    refine EV.lconst (pc := 15) (v := 0) dX4_counts_15 (by decide) ?_
    refine EV.lcmp_le (pc := 16) (tgt := 24) dX4_counts_16 dX4_counts_17 (by decide) (fun c16 => ?_) (fun c16 => ?_)
    · refine EV.iconst (pc := 24) (v := 0) dX4_counts_24 (by decide) ?_
      refine EV.iret (pc := 25) dX4_counts_25 (by rfl) ?_
      have hb := cB_in s f x y
      refine ⟨congrArg (fun z => some (Value.int z)) ?_, rfl⟩
      unfold uR
      first | (rw [Int64.le_iff_toInt_le, j_l0, jI_toInt (by omega) (by omega)] at c16; rw [c6]; first | (rw [decide_eq_true (show 0 < cB s f x y by omega)]; rfl) | (rw [decide_eq_false (show ¬ 0 < cB s f x y by omega)]; rfl)) | (rw [c6]; rfl)
    · refine EV.iconst (pc := 20) (v := 1) dX4_counts_20 (by decide) ?_
      refine EV.goto (pc := 21) (tgt := 25) dX4_counts_21 (by decide) ?_
      refine EV.iret (pc := 25) dX4_counts_25 (by rfl) ?_
      have hb := cB_in s f x y
      refine ⟨congrArg (fun z => some (Value.int z)) ?_, rfl⟩
      unfold uR
      first | (rw [Int64.le_iff_toInt_le, j_l0, jI_toInt (by omega) (by omega)] at c16; rw [c6]; first | (rw [decide_eq_true (show 0 < cB s f x y by omega)]; rfl) | (rw [decide_eq_false (show ¬ 0 < cB s f x y by omega)]; rfl)) | (rw [c6]; rfl)

set_option maxHeartbeats 4000000 in
set_option maxRecDepth 100000 in
theorem l_sumCol {G : eG} {ad : Nat → Nat} {s : St} {z : Zc} {hm : Nat → va_E} (c p f x : Nat) (e : Int) (hI : Inv s) (hc : c < 4) (hp : p < 6) (hf : f < 6) (hx : x < s_w s f) (hsw : s_w s p = s_w s f) (hsh : s_h s p = s_h s f) (he : e = -1 ∨ (0 ≤ e ∧ e ≤ 19)) : ∀ (n i : Nat) (h : Nat → va_E), i + n = rM s c f x → CW G ad s (zD z s f p x e (rLo s c f x) i) hm h → EV G M_X4_sumColumn cX4_sumColumn none ad 54 (fun v h' => v = none ∧ CW G ad s (zD z s f p x e (rLo s c f x) (rM s c f x)) hm h') 25 [some (.ref (ad 0)), some (.ref (ad (22 + 3 * c))), some (.ref (ad (10 + 2 * p))), some (.ref (ad (10 + 2 * f))), some (.int (nI x)), some (.int (iI e)), some (.int (iI (rHi s c f x))), some (.int (nI (rLo s c f x + i)))] [] h := by
  have hb := hI.2.2.2.1 c hc
  have hdf := hI.1 f hf
  have hdp := hI.1 p hp
  have r1 := rLo_in hI hc hf hx
  have r2 := rHi_in hI hc hf hx
  have r3 := rM_in hI hc hf hx
  intro n
  induction n with
  | zero =>
    intro i h hi hw
    have ei : i = rM s c f x := by omega
    subst ei
    refine EV.iload (pc := 25) dX4_sumColumn_25 rfl ?_
    refine EV.iload (pc := 27) dX4_sumColumn_27 rfl ?_
    refine EV.icmp_gt (pc := 29) (tgt := 80) dX4_sumColumn_29 (by decide) (fun _ => ?_) (fun q => absurd (by rw [nI_iI, iI_lt (by omega) (by omega) (by omega) (by omega)]; omega) q)
    exact EV.vret (pc := 80) dX4_sumColumn_80 trivial ⟨rfl, hw⟩
  | succ n ih =>
    intro i h hi hw
    have hi2 : i < rM s c f x := by omega
    refine EV.iload (pc := 25) dX4_sumColumn_25 rfl ?_
    refine EV.iload (pc := 27) dX4_sumColumn_27 rfl ?_
    refine EV.icmp_gt (pc := 29) (tgt := 80) dX4_sumColumn_29 (by decide) (fun q => absurd q (by rw [nI_iI, iI_lt (by omega) (by omega) (by omega) (by omega)]; omega)) (fun _ => ?_)
    refine EV.iload (pc := 32) dX4_sumColumn_32 rfl ?_
    refine EV.iload (pc := 34) dX4_sumColumn_34 rfl ?_
    refine EV.icmp_eq (pc := 36) (tgt := 74) dX4_sumColumn_36 (by decide) (fun c36 => ?_) (fun c36 => ?_)
    · have hw : CW G ad s (zD z s f p x e (rLo s c f x) (i + 1)) hm h := by first | (have q := eu; exact hw) | (rw [zD_skip (uE_no2 c48)]; exact hw) | (rw [zD_skip (uE_no1 (by rw [nI_iI, iI_eq (by omega) (by omega) (by omega) (by omega)] at c36; exact c36))]; exact hw)
      refine EV.iinc (pc := 74) dX4_sumColumn_74 (by decide) rfl (by first | exact nI_inc _ | rfl) (by dsimp only [lst1, lk] <;> rfl) ?_
      refine EV.goto (pc := 77) (tgt := 25) dX4_sumColumn_77 (by decide) ?_
      exact ih (i + 1) h (by omega) hw
    · refine EV.aload_n (pc := 39) dX4_sumColumn_39 rfl ?_
      refine EV.aload_n (pc := 40) dX4_sumColumn_40 rfl ?_
      refine EV.iload (pc := 41) dX4_sumColumn_41 rfl ?_
      refine EV.iload (pc := 43) dX4_sumColumn_43 rfl ?_
      refine EV.callVR1 (pc := 45) (M' := M_X4_counts) dX4_sumColumn_45 lkX4_276 okV_X4_counts (m_counts hw f x (rLo s c f x + i) hI hf hx (by omega)) (by decide) rfl rfl (Nat.le_of_ble_eq_true rfl) (by decide) hw.h0 ?_
      refine EV.if_eq (pc := 48) (tgt := 74) dX4_sumColumn_48 (by decide) (fun c48 => ?_) (fun c48 => ?_)
      · replace c48 := b2i_eq c48
        have hw : CW G ad s (zD z s f p x e (rLo s c f x) (i + 1)) hm h := by first | (have q := eu; exact hw) | (rw [zD_skip (uE_no2 c48)]; exact hw) | (rw [zD_skip (uE_no1 (by rw [nI_iI, iI_eq (by omega) (by omega) (by omega) (by omega)] at c36; exact c36))]; exact hw)
        refine EV.iinc (pc := 74) dX4_sumColumn_74 (by decide) rfl (by first | exact nI_inc _ | rfl) (by dsimp only [lst1, lk] <;> rfl) ?_
        refine EV.goto (pc := 77) (tgt := 25) dX4_sumColumn_77 (by decide) ?_
        exact ih (i + 1) h (by omega) hw
      · replace c48 := b2i_ne c48
        refine EV.aload_n (pc := 51) dX4_sumColumn_51 rfl ?_
        refine EV.getf (pc := 52) dX4_sumColumn_52 fgX4_42 (by decide) hw.h0 rfl ?_
        refine EV.aload_n (pc := 55) dX4_sumColumn_55 rfl ?_
        refine EV.iload (pc := 56) dX4_sumColumn_56 rfl ?_
        refine EV.iload (pc := 58) dX4_sumColumn_58 rfl ?_
        refine EV.callVR1 (pc := 60) (M' := M_X2_lightAt) dX4_sumColumn_60 lkX4_249 okV_X2_lightAt (m_plight (10 + 2 * p) (11 + 2 * p) (b2i (s_lost s p)) (s_lane s p) (s_w s p) (s_h s p) (s_ct s p) _ _ (by omega) (by omega) hdp.1 hdp.2.1 (hw.pl' hp) (hw.ct p hp)) (by decide) rfl rfl (Nat.le_of_ble_eq_true rfl) (show 10 + 2 * p < 54 by omega) (hw.pl' hp) ?_
        refine EV.topl (y := jI (cB s p x (rLo s c f x + i))) (by rw [pAt_n (by omega) (by omega) hdp.1 hdp.2.1]; rfl) ?_
        refine EV.aload_n (pc := 63) dX4_sumColumn_63 rfl ?_
        refine EV.iload (pc := 64) dX4_sumColumn_64 rfl ?_
        refine EV.iload (pc := 66) dX4_sumColumn_66 rfl ?_
        refine EV.callVR1 (pc := 68) (M' := M_X2_lightAt) dX4_sumColumn_68 lkX4_249 okV_X2_lightAt (m_plight (10 + 2 * f) (11 + 2 * f) (b2i (s_lost s f)) (s_lane s f) (s_w s f) (s_h s f) (s_ct s f) _ _ (by omega) (by omega) hdf.1 hdf.2.1 (hw.pl' hf) (hw.ct f hf)) (by decide) rfl rfl (Nat.le_of_ble_eq_true rfl) (show 10 + 2 * f < 54 by omega) (hw.pl' hf) ?_
        refine EV.topl (y := jI (cB s f x (rLo s c f x + i))) (by rw [pAt_n (by omega) (by omega) hdf.1 hdf.2.1]; rfl) ?_
        refine EV.callVR0 (pc := 71) (M' := M_X3_take) dX4_sumColumn_71 lkX4_280 okV_X3_take (m_take 8 (iI (dR s f x e (rLo s c f x) i)) (jI (dL s f p x e (rLo s c f x) i)) (jI (dF s f x e (rLo s c f x) i)) (jI (dQ s f x e (rLo s c f x) i)) (jI (dP s f p x e (rLo s c f x) i)) _ _ (by decide) hw.h8) (by decide) rfl rfl (Nat.le_of_ble_eq_true rfl) (by decide) hw.h8 ?_
        have eu : uE s f x e (rLo s c f x + i) = true := uE_yes c48 (by rw [nI_iI, iI_eq (by omega) (by omega) (by omega) (by omega)] at c36; exact c36)
        refine EV.abs (Pr := CW G ad s (zD z s f p x e (rLo s c f x) (i + 1)) hm) (by rw [zD_take eu]; have q := hw.set_T (iI (dR s f x e (rLo s c f x) i) + 1) (jI (dL s f p x e (rLo s c f x) i) + jI (cB s p x (rLo s c f x + i))) (jI (dF s f x e (rLo s c f x) i) + jI (cB s f x (rLo s c f x + i))) (jI (dQ s f x e (rLo s c f x) i) + jI (cB s f x (rLo s c f x + i)) * jI (cB s f x (rLo s c f x + i))) (jI (dP s f p x e (rLo s c f x) i) + jI (cB s f x (rLo s c f x + i)) * jI (cB s p x (rLo s c f x + i))); unfold zD at q; rw [zT_over] at q; exact q) (fun h hw => ?_)
        have hw : CW G ad s (zD z s f p x e (rLo s c f x) (i + 1)) hm h := by first | (have q := eu; exact hw) | (rw [zD_skip (uE_no2 c48)]; exact hw) | (rw [zD_skip (uE_no1 (by rw [nI_iI, iI_eq (by omega) (by omega) (by omega) (by omega)] at c36; exact c36))]; exact hw)
        refine EV.iinc (pc := 74) dX4_sumColumn_74 (by decide) rfl (by first | exact nI_inc _ | rfl) (by dsimp only [lst1, lk] <;> rfl) ?_
        refine EV.goto (pc := 77) (tgt := 25) dX4_sumColumn_77 (by decide) ?_
        exact ih (i + 1) h (by omega) hw

set_option maxHeartbeats 4000000 in
set_option maxRecDepth 100000 in
theorem m_sumCol {G : eG} {ad : Nat → Nat} {h : Nat → va_E}  {s : St} {z : Zc} {hm : Nat → va_E} (hw : CW G ad s z hm h) (c p f x : Nat) (e : Int) (hI : Inv s) (hc : c < 4) (hp : p < 6) (hf : f < 6) (hx : x < s_w s f) (hsw : s_w s p = s_w s f) (hsh : s_h s p = s_h s f) (he : e = -1 ∨ (0 ≤ e ∧ e ≤ 19)) : MC G M_X4_sumColumn cX4_sumColumn ad 54 [.ref (ad 0), .ref (ad (22 + 3 * c)), .ref (ad (10 + 2 * p)), .ref (ad (10 + 2 * f)), .int (nI x), .int (iI e)] h (fun v h' => v = none ∧ CW G ad s (zD z s f p x e (rLo s c f x) (rM s c f x)) hm h') := by
  refine MC.of (by decide +kernel) (Nat.le_of_ble_eq_true rfl) (by dsimp only [linit, Nat.reduceSub, List.reduceReplicate] <;> rfl) ?_
  have hb := hI.2.2.2.1 c hc
  have hdf := hI.1 f hf
  have hdp := hI.1 p hp
  have r1 := rLo_in hI hc hf hx
  have r2 := rHi_in hI hc hf hx
  have r3 := rM_in hI hc hf hx
  refine EV.aload_n (pc := 0) dX4_sumColumn_0 rfl ?_
  refine EV.getf (pc := 1) dX4_sumColumn_1 fgX4_42 (by decide) hw.h0 rfl ?_
  refine EV.callVR0 (pc := 4) (M' := M_X3_empty) dX4_sumColumn_4 lkX4_273 okV_X3_empty (m_empty 8 _ _ _ _ _ (by decide) hw.h8) (by decide) rfl rfl (Nat.le_of_ble_eq_true rfl) (by decide) hw.h8 ?_
  refine EV.abs (Pr := CW G ad s (zD z s f p x e (rLo s c f x) 0) hm) (by
      have q := hw.set_T 0 0 0 0 0
      have e2 : (zD z s f p x e (rLo s c f x) 0) = zT z 0 0 0 0 0 := by simp only [zD, dR, dF, dL, dQ, dP, sR, iI_z, jI_z]
      rw [e2]
      exact q) (fun h hw => ?_)
  refine EV.aload_n (pc := 7) dX4_sumColumn_7 rfl ?_
  refine EV.iload (pc := 8) dX4_sumColumn_8 rfl ?_
  refine EV.aload_n (pc := 10) dX4_sumColumn_10 rfl ?_
  refine EV.callVR1 (pc := 11) (M' := M_X0_greatestRow) dX4_sumColumn_11 lkX4_134 okV_X0_greatestRow (m_greatestRow (22 + 3 * c) (10 + 2 * f) _ _ _ (b2i (s_lost s f)) (nI (s_lane s f)) (s_ca s c) (s_cb s c) (s_cr s c) (s_co s c) x (s_w s f) (s_h s f) (by omega) (by omega) hb.1 hb.2.1 hb.2.2.1 hx hdf.1 hdf.2.1 (hw.kb' hc) (hw.pl' hf)) (by decide) rfl rfl (Nat.le_of_ble_eq_true rfl) (show 22 + 3 * c < 54 by omega) (hw.kb' hc) ?_
  refine EV.istore (pc := 14) dX4_sumColumn_14 (by decide) (by dsimp only [lst1, lk] <;> rfl) ?_
  refine EV.aload_n (pc := 16) dX4_sumColumn_16 rfl ?_
  refine EV.iload (pc := 17) dX4_sumColumn_17 rfl ?_
  refine EV.aload_n (pc := 19) dX4_sumColumn_19 rfl ?_
  refine EV.callVR1 (pc := 20) (M' := M_X0_leastRow) dX4_sumColumn_20 lkX4_130 okV_X0_leastRow (m_leastRow (22 + 3 * c) (10 + 2 * f) _ _ _ (b2i (s_lost s f)) (nI (s_lane s f)) (s_ca s c) (s_cb s c) (s_cr s c) (s_co s c) x (s_w s f) (s_h s f) (by omega) (by omega) hb.1 hb.2.1 hb.2.2.1 hx hdf.1 hdf.2.1 (hw.kb' hc) (hw.pl' hf)) (by decide) rfl rfl (Nat.le_of_ble_eq_true rfl) (show 22 + 3 * c < 54 by omega) (hw.kb' hc) ?_
  refine EV.topi (y := nI (rLo s c f x + 0)) (by rw [r1.1, nI_iI]; rfl) ?_
  refine EV.istore (pc := 23) dX4_sumColumn_23 (by decide) (by dsimp only [lst1, lk] <;> rfl) ?_
  exact l_sumCol c p f x e hI hc hp hf hx hsw hsh he (rM s c f x) 0 h (by omega) hw
