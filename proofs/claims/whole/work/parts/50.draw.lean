set_option maxHeartbeats 4000000 in
set_option maxRecDepth 100000 in
theorem m_rayRow {G : eG} {ad : Nat → Nat} {h : Nat → va_E}  {s : St} {z : Zc} {hm : Nat → va_E} (hw : CW G ad s z hm h) (c p f x : Nat) (k F L : Int) (hI : Inv s) (hc : c < 4) (hp : p < 6) (hf : f < 6) (hx : x < s_w s f) (hsw : s_w s p = s_w s f) (hsh : s_h s p = s_h s f) (hk : 0 ≤ k ∧ k ≤ 100) (hF : 0 ≤ F ∧ F ≤ 2000000) (hL : 0 ≤ L ∧ L ≤ 2000000) (hzF : c_sf z = jI F) (hzL : c_sl z = jI L) : MC G M_X4_rayRow cX4_rayRow ad 54 [.ref (ad 0), .ref (ad (22 + 3 * c)), .ref (ad (10 + 2 * p)), .ref (ad (10 + 2 * f)), .int (nI x), .int (iI k)] h (IS (some (.int (iI (rayE s f p x F L (rLo s c f x) (rM s c f x) k)))) h) := by
  refine MC.of (by decide +kernel) (Nat.le_of_ble_eq_true rfl) (by dsimp only [linit, Nat.reduceSub, List.reduceReplicate] <;> rfl) ?_
  have hb := hI.2.2.2.1 c hc
  have hdf := hI.1 f hf
  have hdp := hI.1 p hp
  have r1 := rLo_in hI hc hf hx
  have r2 := rHi_in hI hc hf hx
  have r3 := rM_in hI hc hf hx
  refine EV.iconst (pc := 0) (v := -1) dX4_rayRow_0 (by decide) ?_
  refine EV.istore (pc := 1) dX4_rayRow_1 (by decide) (by dsimp only [lst1, lk] <;> rfl) ?_
  refine EV.lconst (pc := 3) (v := 0) dX4_rayRow_3 (by decide) ?_
  refine EV.lstore (pc := 4) dX4_rayRow_4 (by decide) (by dsimp only [lst2, lno, lk] <;> rfl) ?_
  refine EV.aload_n (pc := 6) dX4_rayRow_6 rfl ?_
  refine EV.iload (pc := 7) dX4_rayRow_7 rfl ?_
  refine EV.aload_n (pc := 9) dX4_rayRow_9 rfl ?_
  refine EV.callVR1 (pc := 10) (M' := M_X0_greatestRow) dX4_rayRow_10 lkX4_134 okV_X0_greatestRow (m_greatestRow (22 + 3 * c) (10 + 2 * f) _ _ _ (b2i (s_lost s f)) (nI (s_lane s f)) (s_ca s c) (s_cb s c) (s_cr s c) (s_co s c) x (s_w s f) (s_h s f) (by omega) (by omega) hb.1 hb.2.1 hb.2.2.1 hx hdf.1 hdf.2.1 (hw.kb' hc) (hw.pl' hf)) (by decide) rfl rfl (Nat.le_of_ble_eq_true rfl) (show 22 + 3 * c < 54 by omega) (hw.kb' hc) ?_
  refine EV.istore (pc := 13) dX4_rayRow_13 (by decide) (by dsimp only [lst1, lk] <;> rfl) ?_
  refine EV.aload_n (pc := 15) dX4_rayRow_15 rfl ?_
  refine EV.iload (pc := 16) dX4_rayRow_16 rfl ?_
  refine EV.aload_n (pc := 18) dX4_rayRow_18 rfl ?_
  refine EV.callVR1 (pc := 19) (M' := M_X0_leastRow) dX4_rayRow_19 lkX4_130 okV_X0_leastRow (m_leastRow (22 + 3 * c) (10 + 2 * f) _ _ _ (b2i (s_lost s f)) (nI (s_lane s f)) (s_ca s c) (s_cb s c) (s_cr s c) (s_co s c) x (s_w s f) (s_h s f) (by omega) (by omega) hb.1 hb.2.1 hb.2.2.1 hx hdf.1 hdf.2.1 (hw.kb' hc) (hw.pl' hf)) (by decide) rfl rfl (Nat.le_of_ble_eq_true rfl) (show 22 + 3 * c < 54 by omega) (hw.kb' hc) ?_
  refine EV.topi (y := nI (rLo s c f x + 0)) (by rw [r1.1, nI_iI]; rfl) ?_
  refine EV.istore (pc := 22) dX4_rayRow_22 (by decide) (by dsimp only [lst1, lk] <;> rfl) ?_
  exact l_ray hw c p f x k F L hI hc hp hf hx hsw hsh hk hF hL hzF hzL (rM s c f x) 0 none (by omega)

/-- which row is left out; the number of a column -/
def dE (s : St) (c p f x : Nat) (k : Int) : Int := if 0 < k ∧ 3 ≤ dR s f x (-1) (rLo s c f x) (rM s c f x) then rayE s f p x (dF s f x (-1) (rLo s c f x) (rM s c f x)) (dL s f p x (-1) (rLo s c f x) (rM s c f x)) (rLo s c f x) (rM s c f x) k else -1
def dV (s : St) (f p x : Nat) (e : Int) (lo n : Nat) : Int := if 0 < dQ s f x e lo n then dP s f p x e lo n * dF s f x e lo n / dQ s f x e lo n else 0
def drw (s : St) (c p f x : Nat) (k : Int) : Nat := (dV s f p x (dE s c p f x k) (rLo s c f x) (rM s c f x)).toNat
theorem dR_in (s : St) (f x : Nat) (e : Int) (lo n : Nat) : 0 ≤ dR s f x e lo n ∧ dR s f x e lo n ≤ n := by
  have h1 : ∀ y : Nat, 0 ≤ (fun y : Nat => if uE s f x e y = true then (1 : Int) else 0) y ∧ (fun y : Nat => if uE s f x e y = true then (1 : Int) else 0) y ≤ (1 : Nat) := by
    intro y
    dsimp only
    split <;> omega
  have h2 := sR_ge (lo := lo) (fun y => (h1 y).1) n
  have h3 := sR_le (lo := lo) (b := 1) (fun y => (h1 y).2) n
  unfold dR
  omega
theorem dF_in (s : St) (f x : Nat) (e : Int) (lo n : Nat) : 0 ≤ dF s f x e lo n ∧ dF s f x e lo n ≤ n * 100000 := by
  have h2 := sR_ge (lo := lo) (fun y => (wF_in s f x e y).1) n
  have h3 := sR_le (lo := lo) (b := 100000) (fun y => (wF_in s f x e y).2) n
  unfold dF
  omega
theorem dL_in (s : St) (f p x : Nat) (e : Int) (lo n : Nat) : 0 ≤ dL s f p x e lo n ∧ dL s f p x e lo n ≤ n * 100000 := by
  have h2 := sR_ge (lo := lo) (fun y => (wS_in s f p x e y).1) n
  have h3 := sR_le (lo := lo) (b := 100000) (fun y => (wS_in s f p x e y).2) n
  unfold dL
  omega
theorem mul_in {a b : Int} (ha : 0 ≤ a ∧ a ≤ 100000) (hb : 0 ≤ b ∧ b ≤ 100000) : 0 ≤ a * b ∧ a * b ≤ (10000000000 : Nat) := by
  have h1 : 0 ≤ a * b := Int.mul_nonneg ha.1 hb.1
  have h2 : a * b ≤ 100000 * 100000 := Int.mul_le_mul ha.2 hb.2 hb.1 (by omega)
  omega
theorem dQ_in (s : St) (f x : Nat) (e : Int) (lo n : Nat) : 0 ≤ dQ s f x e lo n ∧ dQ s f x e lo n ≤ n * 10000000000 := by
  have h2 := sR_ge (g := fun y => wF s f x e y * wF s f x e y) (lo := lo) (fun y => (mul_in (wF_in s f x e y) (wF_in s f x e y)).1) n
  have h3 := sR_le (g := fun y => wF s f x e y * wF s f x e y) (lo := lo) (b := 10000000000) (fun y => (mul_in (wF_in s f x e y) (wF_in s f x e y)).2) n
  unfold dQ
  omega
theorem dP_in (s : St) (f p x : Nat) (e : Int) (lo n : Nat) : 0 ≤ dP s f p x e lo n ∧ dP s f p x e lo n ≤ n * 10000000000 := by
  have h2 := sR_ge (g := fun y => wF s f x e y * wS s f p x e y) (lo := lo) (fun y => (mul_in (wF_in s f x e y) (wS_in s f p x e y)).1) n
  have h3 := sR_le (g := fun y => wF s f x e y * wS s f p x e y) (lo := lo) (b := 10000000000) (fun y => (mul_in (wF_in s f x e y) (wS_in s f p x e y)).2) n
  unfold dP
  omega
theorem dP_le (s : St) (f p x : Nat) (e : Int) (lo : Nat) : ∀ n, dP s f p x e lo n ≤ 100000 * dF s f x e lo n
  | 0 => by simp [dP, dF, sR]
  | n + 1 => by
    have h1 := dP_le s f p x e lo n
    have h2 := wF_in s f x e (lo + n)
    have h3 := wS_in s f p x e (lo + n)
    have h4 : wF s f x e (lo + n) * wS s f p x e (lo + n) ≤ wF s f x e (lo + n) * 100000 := Int.mul_le_mul_of_nonneg_left h3.2 h2.1
    unfold dP dF at *
    simp only [sR]
    omega
/-- squares: a a Q and n b b are 2 a b P at least -/
theorem sq_sum (s : St) (f x : Nat) (e : Int) (lo : Nat) (b : Int) : ∀ n : Nat, 14 * b * dF s f x e lo n ≤ 49 * dQ s f x e lo n + n * (b * b)
  | 0 => by simp [dF, dQ, sR]
  | n + 1 => by
    have h1 := sq_sum s f x e lo b n
    unfold dF dQ at *
    simp only [sR]
    generalize wF s f x e (lo + n) = w at *
    generalize sR (wF s f x e) lo n = P at *
    generalize sR (fun y => wF s f x e y * wF s f x e y) lo n = Q at *
    have h2 : 0 ≤ (7 * w - b) * (7 * w - b) := by
      have q : ∀ t : Int, 0 ≤ t * t := fun t => by
        rcases Int.le_total 0 t with h | h
        · exact Int.mul_nonneg h h
        · exact Int.mul_nonneg_of_nonpos_of_nonpos h h
      exact q _
    have h3 : (7 * w - b) * (7 * w - b) = 49 * (w * w) - 14 * b * w + b * b := by
      rw [Int.sub_mul, Int.mul_sub, Int.mul_sub, Int.mul_comm b (7 * w)]
      rw [show 7 * w * (7 * w) = 49 * (w * w) by rw [Int.mul_assoc, Int.mul_left_comm w 7 w, ← Int.mul_assoc]; rfl]
      rw [show 7 * w * b = 7 * (b * w) by rw [Int.mul_assoc, Int.mul_comm w b], show 14 * b * w = 14 * (b * w) by rw [Int.mul_assoc]]
      omega
    have h4 : ((n + 1 : Nat) : Int) * (b * b) = (n : Int) * (b * b) + b * b := by rw [Int.natCast_add, Int.add_mul]; simp
    have h5 : 14 * b * (P + w) = 14 * b * P + 14 * b * w := by rw [Int.mul_add]
    rw [h4, h5]
    omega
theorem dF_sq {s : St} {f x : Nat} {e : Int} {lo n : Nat} (hn : n ≤ 7) : dF s f x e lo n * dF s f x e lo n ≤ 7 * dQ s f x e lo n := by
  have h1 := sq_sum s f x e lo (dF s f x e lo n) n
  generalize dF s f x e lo n = P at *
  generalize dQ s f x e lo n = Q at *
  have h2 : 0 ≤ P * P := by
    rcases Int.le_total 0 P with h | h
    · exact Int.mul_nonneg h h
    · exact Int.mul_nonneg_of_nonpos_of_nonpos h h
  have h3 : (n : Int) * (P * P) ≤ 7 * (P * P) := Int.mul_le_mul_of_nonneg_right (by omega) h2
  rw [Int.mul_assoc] at h1
  omega
theorem dV_in {s : St} {f p x : Nat} {e : Int} {lo n : Nat} (hn : n ≤ 7) : 0 ≤ dV s f p x e lo n ∧ dV s f p x e lo n ≤ 700000 := by
  unfold dV
  split
  · rename_i h0
    have h1 := dF_sq (s := s) (f := f) (x := x) (e := e) (lo := lo) hn
    have h2 := dP_le s f p x e lo n
    have h3 := dP_in s f p x e lo n
    have h4 := dF_in s f x e lo n
    have h5 : dP s f p x e lo n * dF s f x e lo n ≤ 100000 * dF s f x e lo n * dF s f x e lo n := Int.mul_le_mul_of_nonneg_right h2 h4.1
    rw [Int.mul_assoc] at h5
    have h6 : 0 ≤ dP s f p x e lo n * dF s f x e lo n := Int.mul_nonneg h3.1 h4.1
    constructor
    · exact Int.ediv_nonneg h6 (by omega)
    · exact Int.ediv_le_of_le_mul h0 (by omega)
  · omega
theorem rM_7 {s : St} {c p x : Nat} (hI : Inv s) (hc : c < 4) (hp : p < 6) (hx : x < s_w s p) : rM s c p x ≤ 7 := by
  have h1 := hI.2.2.2.1 c hc
  have h2 := bMid_in (x := x) (w := s_w s p) h1.1 h1.2.1 hx
  have h3 := hI.1 p hp
  unfold rM rHi rLo bHi bLo
  split <;> split <;> omega
theorem rayE_in {s : St} {f p x : Nat} {F L : Int} {lo n : Nat} {k : Int} (hF : 0 ≤ F ∧ F ≤ 2000000) (hL : 0 ≤ L ∧ L ≤ 2000000) (hl : n = 0 ∨ (lo : Int) + n ≤ 20) : rayE s f p x F L lo n k = -1 ∨ (0 ≤ rayE s f p x F L lo n k ∧ rayE s f p x F L lo n k ≤ 19) := by
  have h1 := ryN_in (s := s) (f := f) (p := p) (x := x) (lo := lo) hF hL n
  unfold rayE
  split
  · exact Or.inl rfl
  · omega
theorem quo {R P Q : Int} (hR : 0 ≤ R ∧ R ≤ 200000000000) (hP : 0 ≤ P ∧ P ≤ 2000000) (hQ : 0 ≤ Q ∧ Q ≤ 200000000000) : (if 0 < (jI Q).toInt then jI ((jI R * jI P).toInt / (jI Q).toInt) else 0) = jI (if 0 < Q then R * P / Q else 0) := by
  have h1 : 0 ≤ R * P := Int.mul_nonneg hR.1 hP.1
  have h2 : R * P ≤ 200000000000 * 2000000 := Int.mul_le_mul hR.2 hP.2 hP.1 (by omega)
  rw [jI_mul, jI_toInt (by omega) (by omega), jI_toInt (by omega) (by omega)]
  split
  · rfl
  · rfl

set_option maxHeartbeats 4000000 in
set_option maxRecDepth 100000 in
theorem l_dn56 {G : eG} {ad : Nat → Nat} {h : Nat → va_E} {s : St} {z : Zc} {hm : Nat → va_E} (c p f x : Nat) (k : Int) (hI : Inv s) (hc : c < 4) (hp : p < 6) (hf : f < 6) (hx : x < s_w s f) (hsw : s_w s p = s_w s f) (hsh : s_h s p = s_h s f) (hk : 0 ≤ k ∧ k ≤ 100) (e : Int) (he : dE s c p f x k = e) (hw : CW G ad s (zD z s f p x e (rLo s c f x) (rM s c f x)) hm h) (v6 : Option Value) : EV G M_X4_drawnNumber cX4_drawnNumber none ad 54 (fun v h' => v = some (.long (lN (drw s c p f x k))) ∧ ∃ z : Zc, CW G ad s z hm h') 56 [some (.ref (ad 0)), some (.ref (ad (22 + 3 * c))), some (.ref (ad (10 + 2 * p))), some (.ref (ad (10 + 2 * f))), some (.int (nI x)), some (.int (iI k)), v6] [] h := by
  have r7 := rM_7 hI hc hf hx
  refine EV.aload_n (pc := 56) dX4_drawnNumber_56 rfl ?_
  refine EV.getf (pc := 57) dX4_drawnNumber_57 fgX4_42 (by decide) hw.h0 rfl ?_
  refine EV.callVR1 (pc := 60) (M' := M_X3_quotient) dX4_drawnNumber_60 lkX4_269 okV_X3_quotient (m_quotient 8 (iI (dR s f x e (rLo s c f x) (rM s c f x))) (jI (dL s f p x e (rLo s c f x) (rM s c f x))) (jI (dF s f x e (rLo s c f x) (rM s c f x))) (jI (dQ s f x e (rLo s c f x) (rM s c f x))) (jI (dP s f p x e (rLo s c f x) (rM s c f x))) (by decide) hw.h8) (by decide) rfl rfl (Nat.le_of_ble_eq_true rfl) (by decide) hw.h8 ?_
  refine EV.lret (pc := 63) dX4_drawnNumber_63 trivial ?_
  have e9 : dE s c p f x k = e := by unfold dE; exact he
  refine ⟨congrArg (fun z => some (Value.long z)) ?_, _, hw⟩
  have q1 := dP_in s f p x e (rLo s c f x) (rM s c f x)
  have q2 := dF_in s f x e (rLo s c f x) (rM s c f x)
  have q3 := dQ_in s f x e (rLo s c f x) (rM s c f x)
  have q4 := dV_in (s := s) (f := f) (p := p) (x := x) (e := e) (lo := (rLo s c f x)) r7
  rw [quo (by omega) (by omega) (by omega)]
  unfold drw
  rw [e9, lN_jI, Int.toNat_of_nonneg q4.1]
  rfl

set_option maxHeartbeats 4000000 in
set_option maxRecDepth 100000 in
theorem m_drawnNumber {G : eG} {ad : Nat → Nat} {h : Nat → va_E}  {s : St} {z : Zc} {hm : Nat → va_E} (hw : CW G ad s z hm h) (c p f x : Nat) (k : Int) (hI : Inv s) (hc : c < 4) (hp : p < 6) (hf : f < 6) (hx : x < s_w s f) (hsw : s_w s p = s_w s f) (hsh : s_h s p = s_h s f) (hk : 0 ≤ k ∧ k ≤ 100) : MC G M_X4_drawnNumber cX4_drawnNumber ad 54 [.ref (ad 0), .ref (ad (22 + 3 * c)), .ref (ad (10 + 2 * p)), .ref (ad (10 + 2 * f)), .int (nI x), .int (iI k)] h (fun v h' => v = some (.long (lN (drw s c p f x k))) ∧ ∃ z : Zc, CW G ad s z hm h') := by
  refine MC.of (by decide +kernel) (Nat.le_of_ble_eq_true rfl) (by dsimp only [linit, Nat.reduceSub, List.reduceReplicate] <;> rfl) ?_
  have hb := hI.2.2.2.1 c hc
  have hdf := hI.1 f hf
  have hdp := hI.1 p hp
  have r1 := rLo_in hI hc hf hx
  have r2 := rHi_in hI hc hf hx
  have r3 := rM_in hI hc hf hx
  have r7 := rM_7 hI hc hf hx
  have g1 := dF_in s f x (-1) (rLo s c f x) (rM s c f x)
  have g2 := dL_in s f p x (-1) (rLo s c f x) (rM s c f x)
  have g3 := dR_in s f x (-1) (rLo s c f x) (rM s c f x)
  refine EV.aload_n (pc := 0) dX4_drawnNumber_0 rfl ?_
  refine EV.aload_n (pc := 1) dX4_drawnNumber_1 rfl ?_
  refine EV.aload_n (pc := 2) dX4_drawnNumber_2 rfl ?_
  refine EV.aload_n (pc := 3) dX4_drawnNumber_3 rfl ?_
  refine EV.iload (pc := 4) dX4_drawnNumber_4 rfl ?_
  refine EV.iconst (pc := 6) (v := -1) dX4_drawnNumber_6 (by decide) ?_
  refine EV.topi (y := iI (-1)) rfl ?_
  refine EV.callVP0 (pc := 7) (M' := M_X4_sumColumn) dX4_drawnNumber_7 lkX4_258 okV_X4_sumColumn (m_sumCol hw c p f x (-1) hI hc hp hf hx hsw hsh (Or.inl rfl)) (by decide) rfl rfl (Nat.le_of_ble_eq_true rfl) (by decide) hw.h0 (fun h hw => ?_)
  refine EV.iload (pc := 10) dX4_drawnNumber_10 rfl ?_
  refine EV.if_le (pc := 12) (tgt := 56) dX4_drawnNumber_12 (by decide) (fun c12 => ?_) (fun c12 => ?_)
  · first
    | exact l_dn56 c p f x k hI hc hp hf hx hsw hsh hk (rayE s f p x (dF s f x (-1) (rLo s c f x) (rM s c f x)) (dL s f p x (-1) (rLo s c f x) (rM s c f x)) (rLo s c f x) (rM s c f x) k) e8 hw _
    | (rw [show (-1 : Int32) = iI (-1) from rfl, iI_eq (by omega) (by omega) (by omega) (by omega)] at c42; rw [c42] at e8; exact l_dn56 c p f x k hI hc hp hf hx hsw hsh hk (-1) e8 hw _)
    | (rw [Int32.lt_iff_toInt_lt, i_l3, iI_toInt (by omega) (by omega)] at c23; exact l_dn56 c p f x k hI hc hp hf hx hsw hsh hk (-1) (by unfold dE; rw [if_neg (by omega)]) hw _)
    | (rw [Int32.le_iff_toInt_le, i_l0, iI_toInt (by omega) (by omega)] at c12; exact l_dn56 c p f x k hI hc hp hf hx hsw hsh hk (-1) (by unfold dE; rw [if_neg (by omega)]) hw _)
  · rw [Int32.le_iff_toInt_le, i_l0, iI_toInt (by omega) (by omega)] at c12
    refine EV.aload_n (pc := 15) dX4_drawnNumber_15 rfl ?_
    refine EV.getf (pc := 16) dX4_drawnNumber_16 fgX4_42 (by decide) hw.h0 rfl ?_
    refine EV.getf (pc := 19) dX4_drawnNumber_19 fgX4_262 (by decide) hw.h8 rfl ?_
    refine EV.topi (y := iI (dR s f x (-1) (rLo s c f x) (rM s c f x))) rfl ?_
    refine EV.iconst (pc := 22) (v := 3) dX4_drawnNumber_22 (by decide) ?_
    refine EV.icmp_lt (pc := 23) (tgt := 56) dX4_drawnNumber_23 (by decide) (fun c23 => ?_) (fun c23 => ?_)
    · first
      | exact l_dn56 c p f x k hI hc hp hf hx hsw hsh hk (rayE s f p x (dF s f x (-1) (rLo s c f x) (rM s c f x)) (dL s f p x (-1) (rLo s c f x) (rM s c f x)) (rLo s c f x) (rM s c f x) k) e8 hw _
      | (rw [show (-1 : Int32) = iI (-1) from rfl, iI_eq (by omega) (by omega) (by omega) (by omega)] at c42; rw [c42] at e8; exact l_dn56 c p f x k hI hc hp hf hx hsw hsh hk (-1) e8 hw _)
      | (rw [Int32.lt_iff_toInt_lt, i_l3, iI_toInt (by omega) (by omega)] at c23; exact l_dn56 c p f x k hI hc hp hf hx hsw hsh hk (-1) (by unfold dE; rw [if_neg (by omega)]) hw _)
      | (rw [Int32.le_iff_toInt_le, i_l0, iI_toInt (by omega) (by omega)] at c12; exact l_dn56 c p f x k hI hc hp hf hx hsw hsh hk (-1) (by unfold dE; rw [if_neg (by omega)]) hw _)
    · rw [Int32.lt_iff_toInt_lt, i_l3, iI_toInt (by omega) (by omega)] at c23
      have e8 : dE s c p f x k = (rayE s f p x (dF s f x (-1) (rLo s c f x) (rM s c f x)) (dL s f p x (-1) (rLo s c f x) (rM s c f x)) (rLo s c f x) (rM s c f x) k) := by unfold dE; rw [if_pos (by omega)]
      have q8 := rayE_in (s := s) (f := f) (p := p) (x := x) (F := (dF s f x (-1) (rLo s c f x) (rM s c f x))) (L := (dL s f p x (-1) (rLo s c f x) (rM s c f x))) (lo := (rLo s c f x)) (n := (rM s c f x)) (k := k) (by omega) (by omega) (by omega)
      refine EV.aload_n (pc := 26) dX4_drawnNumber_26 rfl ?_
      refine EV.aload_n (pc := 27) dX4_drawnNumber_27 rfl ?_
      refine EV.aload_n (pc := 28) dX4_drawnNumber_28 rfl ?_
      refine EV.aload_n (pc := 29) dX4_drawnNumber_29 rfl ?_
      refine EV.iload (pc := 30) dX4_drawnNumber_30 rfl ?_
      refine EV.iload (pc := 32) dX4_drawnNumber_32 rfl ?_
      refine EV.callVR1 (pc := 34) (M' := M_X4_rayRow) dX4_drawnNumber_34 lkX4_265 okV_X4_rayRow (m_rayRow hw c p f x k (dF s f x (-1) (rLo s c f x) (rM s c f x)) (dL s f p x (-1) (rLo s c f x) (rM s c f x)) hI hc hp hf hx hsw hsh hk (by omega) (by omega) rfl rfl) (by decide) rfl rfl (Nat.le_of_ble_eq_true rfl) (by decide) hw.h0 ?_
      refine EV.istore (pc := 37) dX4_drawnNumber_37 (by decide) (by dsimp only [lst1, lk] <;> rfl) ?_
      refine EV.iload (pc := 39) dX4_drawnNumber_39 rfl ?_
      refine EV.iconst (pc := 41) (v := -1) dX4_drawnNumber_41 (by decide) ?_
      refine EV.icmp_eq (pc := 42) (tgt := 56) dX4_drawnNumber_42 (by decide) (fun c42 => ?_) (fun c42 => ?_)
      · first
        | exact l_dn56 c p f x k hI hc hp hf hx hsw hsh hk (rayE s f p x (dF s f x (-1) (rLo s c f x) (rM s c f x)) (dL s f p x (-1) (rLo s c f x) (rM s c f x)) (rLo s c f x) (rM s c f x) k) e8 hw _
        | (rw [show (-1 : Int32) = iI (-1) from rfl, iI_eq (by omega) (by omega) (by omega) (by omega)] at c42; rw [c42] at e8; exact l_dn56 c p f x k hI hc hp hf hx hsw hsh hk (-1) e8 hw _)
        | (rw [Int32.lt_iff_toInt_lt, i_l3, iI_toInt (by omega) (by omega)] at c23; exact l_dn56 c p f x k hI hc hp hf hx hsw hsh hk (-1) (by unfold dE; rw [if_neg (by omega)]) hw _)
        | (rw [Int32.le_iff_toInt_le, i_l0, iI_toInt (by omega) (by omega)] at c12; exact l_dn56 c p f x k hI hc hp hf hx hsw hsh hk (-1) (by unfold dE; rw [if_neg (by omega)]) hw _)
      · rw [show (-1 : Int32) = iI (-1) from rfl, iI_eq (by omega) (by omega) (by omega) (by omega)] at c42
        refine EV.aload_n (pc := 45) dX4_drawnNumber_45 rfl ?_
        refine EV.aload_n (pc := 46) dX4_drawnNumber_46 rfl ?_
        refine EV.aload_n (pc := 47) dX4_drawnNumber_47 rfl ?_
        refine EV.aload_n (pc := 48) dX4_drawnNumber_48 rfl ?_
        refine EV.iload (pc := 49) dX4_drawnNumber_49 rfl ?_
        refine EV.iload (pc := 51) dX4_drawnNumber_51 rfl ?_
        refine EV.callVP0 (pc := 53) (M' := M_X4_sumColumn) dX4_drawnNumber_53 lkX4_258 okV_X4_sumColumn (m_sumCol hw c p f x (rayE s f p x (dF s f x (-1) (rLo s c f x) (rM s c f x)) (dL s f p x (-1) (rLo s c f x) (rM s c f x)) (rLo s c f x) (rM s c f x) k) hI hc hp hf hx hsw hsh q8) (by decide) rfl rfl (Nat.le_of_ble_eq_true rfl) (by decide) hw.h0 (fun h hw => ?_)
        first
        | exact l_dn56 c p f x k hI hc hp hf hx hsw hsh hk (rayE s f p x (dF s f x (-1) (rLo s c f x) (rM s c f x)) (dL s f p x (-1) (rLo s c f x) (rM s c f x)) (rLo s c f x) (rM s c f x) k) e8 hw _
        | (rw [show (-1 : Int32) = iI (-1) from rfl, iI_eq (by omega) (by omega) (by omega) (by omega)] at c42; rw [c42] at e8; exact l_dn56 c p f x k hI hc hp hf hx hsw hsh hk (-1) e8 hw _)
        | (rw [Int32.lt_iff_toInt_lt, i_l3, iI_toInt (by omega) (by omega)] at c23; exact l_dn56 c p f x k hI hc hp hf hx hsw hsh hk (-1) (by unfold dE; rw [if_neg (by omega)]) hw _)
        | (rw [Int32.le_iff_toInt_le, i_l0, iI_toInt (by omega) (by omega)] at c12; exact l_dn56 c p f x k hI hc hp hf hx hsw hsh hk (-1) (by unfold dE; rw [if_neg (by omega)]) hw _)

def nmD (s : St) (c p f : Nat) (k : Int) (i : Nat) : Nat → Nat := fun x => if x < i then drw s c p f x k else s_nm s c x
def sD (s : St) (c p f : Nat) (k : Int) (i : Nat) : St := S_nm (S_co s (va_up (s_co s) c (s_w s p))) (va_up (s_nm s) c (nmD s c p f k i))
theorem ryN_sD {s : St} {c p f : Nat} {k : Int} {i : Nat} {p2 f2 x : Nat} {F L : Int} {lo : Nat} : ∀ n, ryN (sD s c p f k i) f2 p2 x F L lo n = ryN s f2 p2 x F L lo n
  | 0 => rfl
  | n + 1 => by
    simp only [ryN]
    rw [ryN_sD n]
    rfl
theorem rayE_sD {s : St} {c p f : Nat} {k : Int} {i : Nat} {p2 f2 x : Nat} {F L : Int} {lo n : Nat} {k2 : Int} : rayE (sD s c p f k i) f2 p2 x F L lo n k2 = rayE s f2 p2 x F L lo n k2 := by
  unfold rayE
  rw [ryN_sD]
  rfl
theorem drw_sD {s : St} {c p f : Nat} {k : Int} {i : Nat} {x : Nat} : drw (sD s c p f k i) c p f x k = drw s c p f x k := by
  have e1 : dE (sD s c p f k i) c p f x k = dE s c p f x k := by
    unfold dE
    rw [rayE_sD]
    rfl
  unfold drw
  rw [e1]
  rfl
theorem drw_le {s : St} {c p f x : Nat} {k : Int} (hI : Inv s) (hc : c < 4) (hf : f < 6) (hx : x < s_w s f) : drw s c p f x k ≤ 700000 := by
  have h := dV_in (s := s) (f := f) (p := p) (x := x) (e := dE s c p f x k) (lo := rLo s c f x) (rM_7 hI hc hf hx)
  unfold drw
  omega
theorem Inv.sD {s : St} {c p f : Nat} {k : Int} {i : Nat} (hI : Inv s) (hc : c < 4) (hp : p < 6) (hf : f < 6) (hi : i ≤ s_w s f) : Inv (sD s c p f k i) := by
  have hI0 := hI
  obtain ⟨hI1, hI2, hI3, hI4, hI5, hI6, hI7, hI8, hI9, hI10, hI11, hI12, hI13⟩ := hI
  refine ⟨hI1, hI2, hI3, ?_, ?_, hI6, hI7, hI8, hI9, hI10, hI11, hI12, hI13⟩
  · intro c2 hc2
    have h1 := hI4 c2 hc2
    refine ⟨h1.1, h1.2.1, h1.2.2.1, ?_⟩
    show va_up (s_co s) c (s_w s p) c2 ≤ 20
    unfold va_up
    split
    · exact (hI1 p hp).1
    · exact h1.2.2.2
  · intro c2 hc2 x hx
    show va_up (s_nm s) c (nmD s c p f k i) c2 x ≤ 700000
    unfold va_up
    split
    · unfold nmD
      split
      · exact drw_le hI0 hc hf (by omega)
      · exact hI5 c hc x hx
    · exact hI5 c2 hc2 x hx
theorem nm_updL (g : Nat → Nat) (i v : Nat) : vp_updL (fun x => lN (g x)) i (lN v) = fun x => lN (va_up g i v x) := by
  funext j
  simp only [vp_updL, va_up]
  split <;> rfl
theorem nmD_s {s : St} {c p f : Nat} {k : Int} {i : Nat} : va_up (nmD s c p f k i) i (drw s c p f i k) = nmD s c p f k (i + 1) := by
  funext j
  simp only [va_up, nmD]
  by_cases e : j = i
  · subst e; rw [if_pos rfl, if_pos (by omega)]
  · rw [if_neg e]
    by_cases e2 : j < i
    · rw [if_pos e2, if_pos (by omega)]
    · rw [if_neg e2, if_neg (by omega)]
def sE (s : St) (c p f : Nat) (k : Int) : St := S_lF (S_lB (S_lA (S_li (sD s c p f k (s_w s p)) (va_up (s_li s) c false)) (va_up (s_lA s) c 0)) (va_up (s_lB s) c 0)) (va_up (s_lF s) c 0)
def g_draw (s : St) (c p f : Nat) (k : Int) : Int32 × St := if 0 ≤ k ∧ k ≤ 100 then (if s_lost s p = true ∨ s_lost s f = true then (-11, f_caus s 1) else if s_w s p = s_w s f ∧ s_h s p = s_h s f then (nI (s_w s p), sE s c p f k) else (-15, f_caus s 5)) else (-102, s)
def f_draw (s : St) (c p f k : Int32) : Int32 × St := if (0 ≤ c.toInt ∧ c.toInt < s_cn s) ∧ (0 ≤ p.toInt ∧ p.toInt ≤ 5) ∧ (0 ≤ f.toInt ∧ f.toInt ≤ 5) then g_draw s c.toInt.toNat p.toInt.toNat f.toInt.toNat k.toInt else (-101, s)

set_option maxHeartbeats 4000000 in
set_option maxRecDepth 100000 in
theorem l_draw {G : eG} {ad : Nat → Nat} {s : St} {hm : Nat → va_E} (c p f k : Nat) (c1 c2 c3 : Option Value) (hI : Inv s) (hc : c < 4) (hp : p < 6) (hf : f < 6) (hsw : s_w s p = s_w s f) (hsh : s_h s p = s_h s f) (hk : k ≤ 100) : ∀ (n i : Nat) (z : Zc) (h : Nat → va_E), i + n = s_w s p → CW G ad (sD s c p f (k : Int) i) z hm h → EV G M_X4_draw cX4_draw none ad 54 (PC G ad hm (.int (nI (s_w s p))) (sE s c p f (k : Int))) 104 [some (.ref (ad 0)), c1, c2, c3, some (.int (nI k)), some (.ref (ad (22 + 3 * c))), some (.ref (ad (10 + 2 * p))), some (.ref (ad (10 + 2 * f))), some (.int (nI i))] [] h := by
  have hdp := hI.1 p hp
  intro n
  induction n with
  | zero =>
    intro i z h hi hw
    have ei : i = s_w s p := by omega
    subst ei
    refine EV.iload (pc := 104) dX4_draw_104 rfl ?_
    refine EV.aload (pc := 106) dX4_draw_106 rfl ?_
    refine EV.getf (pc := 108) dX4_draw_108 fgX4_141 (show 22 + 3 * c < 54 by omega) (hw.kb' hc) rfl ?_
    refine EV.topi (y := nI (s_w s p)) (congrArg nI va_up_s) ?_
    refine EV.icmp_ge (pc := 111) (tgt := 153) dX4_draw_111 (by decide) (fun _ => ?_) (fun q => absurd ((nI_leI (a := s_w s p) (b := s_w s p) (by omega) (by omega)).mpr (Nat.le_refl _)) q)
    refine EV.aload (pc := 153) dX4_draw_153 rfl ?_
    refine EV.getf (pc := 155) dX4_draw_155 fgX4_151 (show 22 + 3 * c < 54 by omega) (hw.kb' hc) rfl ?_
    refine EV.callVR0 (pc := 158) (M' := M_X1_drop) dX4_draw_158 lkX4_154 okV_X1_drop (m_drop (24 + 3 * c) _ _ _ _ (by omega) (hw.lw' hc)) (by decide) rfl rfl (Nat.le_of_ble_eq_true rfl) (show 24 + 3 * c < 54 by omega) (hw.lw' hc) ?_
    refine EV.abs (Pr := CW G ad (sE s c p f (k : Int)) z hm) (hw.set_lw c false 0 0 0 hc) (fun h hw => ?_)
    refine EV.aload (pc := 161) dX4_draw_161 rfl ?_
    refine EV.getf (pc := 163) dX4_draw_163 fgX4_141 (show 22 + 3 * c < 54 by omega) (hw.kb' hc) rfl ?_
    refine EV.topi (y := nI (s_w s p)) (congrArg nI va_up_s) ?_
    exact EV.iret (pc := 166) dX4_draw_166 trivial ⟨rfl, z, hw⟩
  | succ n ih =>
    intro i z h hi hw
    have hi2 : i < s_w s p := by omega
    refine EV.iload (pc := 104) dX4_draw_104 rfl ?_
    refine EV.aload (pc := 106) dX4_draw_106 rfl ?_
    refine EV.getf (pc := 108) dX4_draw_108 fgX4_141 (show 22 + 3 * c < 54 by omega) (hw.kb' hc) rfl ?_
    refine EV.topi (y := nI (s_w s p)) (congrArg nI va_up_s) ?_
    refine EV.icmp_ge (pc := 111) (tgt := 153) dX4_draw_111 (by decide) (fun q => absurd q (fun z => absurd ((nI_leI (a := s_w s p) (b := i) (by omega) (by omega)).mp z) (by omega))) (fun _ => ?_)
    refine EV.iload (pc := 114) dX4_draw_114 rfl ?_
    refine EV.aload (pc := 116) dX4_draw_116 rfl ?_
    refine EV.getf (pc := 118) dX4_draw_118 fgX4_144 (show 22 + 3 * c < 54 by omega) (hw.kb' hc) rfl ?_
    refine EV.alen (pc := 121) (t0 := 1) dX4_draw_121 rfl (show 23 + 3 * c < 54 by omega) (hw.nm c hc) (v := nI 20) rfl ?_
    refine EV.icmp_ge (pc := 122) (tgt := 153) dX4_draw_122 (by decide) (fun q => absurd q (fun z => absurd ((nI_leI (a := 20) (b := i) (by omega) (by omega)).mp z) (by omega))) (fun _ => ?_)
    refine EV.aload (pc := 125) dX4_draw_125 rfl ?_
    refine EV.getf (pc := 127) dX4_draw_127 fgX4_144 (show 22 + 3 * c < 54 by omega) (hw.kb' hc) rfl ?_
    refine EV.iload (pc := 130) dX4_draw_130 rfl ?_
    refine EV.aload_n (pc := 132) dX4_draw_132 rfl ?_
    refine EV.aload (pc := 133) dX4_draw_133 rfl ?_
    refine EV.aload (pc := 135) dX4_draw_135 rfl ?_
    refine EV.aload (pc := 137) dX4_draw_137 rfl ?_
    refine EV.iload (pc := 139) dX4_draw_139 rfl ?_
    refine EV.iload (pc := 141) dX4_draw_141 rfl ?_
    refine EV.topi (y := iI (k : Int)) (nI_iI k) ?_
    refine EV.callVPi (pc := 143) (M' := M_X4_drawnNumber) dX4_draw_143 lkX4_147 okV_X4_drawnNumber (m_drawnNumber hw c p f i (k : Int) (hI.sD hc hp hf (by omega)) hc hp hf (by show i < s_w s f; omega) hsw hsh (by omega)) (by decide) rfl rfl (Nat.le_of_ble_eq_true rfl) (by decide) hw.h0 (fun h hw => ?_)
    obtain ⟨z, hw⟩ := hw
    refine EV.last (pc := 146) dX4_draw_146 (show 23 + 3 * c < 54 by omega) (hw.nm c hc) (vp_in_nI (show i < 20 by omega) (by omega)) ?_
    refine EV.abs (Pr := CW G ad (sD s c p f (k : Int) (i + 1)) z hm) (by
      have q := hw.set_nm c (nmD s c p f (k : Int) (i + 1)) hc
      rw [nI_clamp (by omega), drw_sD, nm_updL]
      have e1 : (fun x => lN (va_up (s_nm (sD s c p f (k : Int) i) c) i (drw s c p f i (k : Int)) x)) = fun x => lN (nmD s c p f (k : Int) (i + 1) x) := by
        funext x
        rw [← nmD_s]
        show lN (va_up (va_up (s_nm s) c (nmD s c p f (k : Int) i) c) i (drw s c p f i (k : Int)) x) = _
        rw [va_up_s]
      rw [e1]
      have e2 : sD s c p f (k : Int) (i + 1) = S_nm (sD s c p f (k : Int) i) (va_up (s_nm (sD s c p f (k : Int) i)) c (nmD s c p f (k : Int) (i + 1))) := by
        show _ = S_nm (S_co s (va_up (s_co s) c (s_w s p))) (va_up (va_up (s_nm s) c (nmD s c p f (k : Int) i)) c (nmD s c p f (k : Int) (i + 1)))
        rw [bx_uu]
        rfl
      rw [e2]
      exact q) (fun h hw => ?_)
    refine EV.iinc (pc := 147) dX4_draw_147 (by decide) rfl (by first | exact nI_inc _ | rfl) (by dsimp only [lst1, lk] <;> rfl) ?_
    refine EV.goto (pc := 150) (tgt := 104) dX4_draw_150 (by decide) ?_
    exact ih (i + 1) z h (by omega) hw

set_option maxHeartbeats 4000000 in
set_option maxRecDepth 100000 in
theorem p_draw {G : eG} {ad : Nat → Nat} {h : Nat → va_E} {s : St} {z : Zc} {hm : Nat → va_E} (hw : CW G ad s z hm h) (hI : Inv s) (u v w k : Int32)  : MC G M_X4_draw cX4_draw ad 54 [.ref (ad 0), .int u, .int v, .int w, .int k] h (PC G ad hm (.int (f_draw s u v w k).1) (f_draw s u v w k).2) := by
  have hcn : s_cn s ≤ 4 := hI.2.2.1
  by_cases hpc : 0 ≤ u.toInt ∧ u.toInt < s_cn s
  · obtain ⟨c, rfl, ec, lc⟩ := i_nat hpc.1
    have hc : c < s_cn s := by omega
    have hc4 : c < 4 := by omega
    have hbc := hI.2.2.2.1 c hc4
    by_cases hpp : 0 ≤ v.toInt ∧ v.toInt ≤ 5
    · obtain ⟨p, rfl, ep, lp⟩ := i_nat hpp.1
      have hp : p < 6 := by omega
      have hdp := hI.1 p hp
      by_cases hpf : 0 ≤ w.toInt ∧ w.toInt ≤ 5
      · obtain ⟨f, rfl, ef, lf⟩ := i_nat hpf.1
        have hf : f < 6 := by omega
        have hdf := hI.1 f hf
        have e0 : f_draw s (nI c) (nI p) (nI f) k = g_draw s c p f k.toInt := by unfold f_draw; rw [if_pos ⟨hpc, hpp, hpf⟩, nI_tn (by omega), nI_tn (by omega), nI_tn (by omega)]
        rw [e0]
        refine MC.of (by decide +kernel) (Nat.le_of_ble_eq_true rfl) (by dsimp only [linit, Nat.reduceSub, List.reduceReplicate] <;> rfl) ?_
        refine EV.aload_n (pc := 0) dX4_draw_0 rfl ?_
        refine EV.iload_n (pc := 1) dX4_draw_1 rfl ?_
        refine EV.callVR1 (pc := 2) (M' := M_X4_combOf) dX4_draw_2 lkX4_122 okV_X4_combOf (m_combOf c hw hc hcn) (by decide) rfl rfl (Nat.le_of_ble_eq_true rfl) (by decide) hw.h0 ?_
        refine EV.astore (pc := 5) dX4_draw_5 (by decide) (by dsimp only [lst1, lk] <;> rfl) ?_
        refine EV.aload_n (pc := 7) dX4_draw_7 rfl ?_
        refine EV.iload_n (pc := 8) dX4_draw_8 rfl ?_
        refine EV.callVR1 (pc := 9) (M' := M_X4_plateOf) dX4_draw_9 lkX4_55 okV_X4_plateOf (m_plateOf p hw hp) (by decide) rfl rfl (Nat.le_of_ble_eq_true rfl) (by decide) hw.h0 ?_
        refine EV.astore (pc := 12) dX4_draw_12 (by decide) (by dsimp only [lst1, lk] <;> rfl) ?_
        refine EV.aload_n (pc := 14) dX4_draw_14 rfl ?_
        refine EV.iload_n (pc := 15) dX4_draw_15 rfl ?_
        refine EV.callVR1 (pc := 16) (M' := M_X4_plateOf) dX4_draw_16 lkX4_55 okV_X4_plateOf (m_plateOf f hw hf) (by decide) rfl rfl (Nat.le_of_ble_eq_true rfl) (by decide) hw.h0 ?_
        refine EV.astore (pc := 19) dX4_draw_19 (by decide) (by dsimp only [lst1, lk] <;> rfl) ?_
        refine EV.aload (pc := 21) dX4_draw_21 rfl ?_
        refine EV.ifnull (pc := 23) dX4_draw_23 ?_
        refine EV.aload (pc := 26) dX4_draw_26 rfl ?_
        refine EV.ifnull (pc := 28) dX4_draw_28 ?_
        refine EV.aload (pc := 31) dX4_draw_31 rfl ?_
        refine EV.ifnonnull (pc := 33) (tgt := 39) dX4_draw_33 (by decide) ?_
        refine EV.iload (pc := 39) dX4_draw_39 rfl ?_
        refine EV.iconst (pc := 41) (v := 0) dX4_draw_41 (by decide) ?_
        refine EV.bipush (pc := 42) (v := 100) dX4_draw_42 (by decide) ?_
        refine EV.callSR1 (pc := 44) (M' := M_X4_within) dX4_draw_44 lkX4_106 okS_X4_within (m_within _ _ _) (by decide) rfl rfl (Nat.le_of_ble_eq_true rfl) ?_
        refine EV.if_ne (pc := 47) (tgt := 53) dX4_draw_47 (by decide) (fun c47 => ?_) (fun c47 => ?_)
        · replace c47 := b2i_T c47
          try simp only [Int32.lt_iff_toInt_lt, Int32.le_iff_toInt_le, ← Int32.toInt_inj, Int64.lt_iff_toInt_lt, Int64.le_iff_toInt_le, ← Int64.toInt_inj, Int32.toInt_toInt64, i_l0, i_l1, i_l2, i_l5, i_l19, i_m1, j_l0, j_l1, j_l5, i_l3, i_l4, i_l6, i_l7, i_l8, i_l9, i_l12, i_l16, i_l20, i_l60, i_l64, i_l100, i_l200, i_l304, i_l2000, i_l10000, i_l100000, i_l1000000, i_n1000000, i_n19, i_n101] at c47
          refine EV.aload (pc := 53) dX4_draw_53 rfl ?_
          refine EV.getf (pc := 55) dX4_draw_55 fgX4_71 (show 10 + 2 * p < 54 by omega) (hw.pl' hp) rfl ?_
          refine EV.if_ne (pc := 58) (tgt := 69) dX4_draw_58 (by decide) (fun c58 => ?_) (fun c58 => ?_)
          · replace c58 := b2i_ne c58
            refine EV.aload_n (pc := 69) dX4_draw_69 rfl ?_
            refine EV.iconst (pc := 70) (v := 1) dX4_draw_70 (by decide) ?_
            refine EV.callVPi (pc := 71) (M' := M_X4_caused) dX4_draw_71 lkX4_63 okV_X4_caused (m_caused 1 hw (by omega)) (by decide) rfl rfl (Nat.le_of_ble_eq_true rfl) (by decide) hw.h0 (fun h hw => ?_)
            refine EV.topi (y := -11) (by decide +kernel) ?_
            refine EV.iret (pc := 74) dX4_draw_74 trivial ?_
            exact PC.i (by unfold g_draw; rw [if_pos (by omega), if_pos (by first | exact Or.inl c58 | exact Or.inr c66)]) hw
          · replace c58 := b2i_eq c58
            refine EV.aload (pc := 61) dX4_draw_61 rfl ?_
            refine EV.getf (pc := 63) dX4_draw_63 fgX4_71 (show 10 + 2 * f < 54 by omega) (hw.pl' hf) rfl ?_
            refine EV.if_eq (pc := 66) (tgt := 75) dX4_draw_66 (by decide) (fun c66 => ?_) (fun c66 => ?_)
            · replace c66 := b2i_eq c66
              refine EV.aload (pc := 75) dX4_draw_75 rfl ?_
              refine EV.aload (pc := 77) dX4_draw_77 rfl ?_
              refine EV.callVR1 (pc := 79) (M' := M_X2_alike) dX4_draw_79 lkX4_86 okV_X2_alike (m_alike (10 + 2 * p) (10 + 2 * f) (b2i (s_lost s p)) (b2i (s_lost s f)) (s_lane s p) (s_w s p) (s_h s p) (s_lane s f) (s_w s f) (s_h s f) _ _ (by omega) (by omega) hdp.1 hdp.2.1 hdf.1 hdf.2.1 (hw.pl' hp) (hw.pl' hf)) (by decide) rfl rfl (Nat.le_of_ble_eq_true rfl) (show 10 + 2 * p < 54 by omega) (hw.pl' hp) ?_
              refine EV.if_ne (pc := 82) (tgt := 91) dX4_draw_82 (by decide) (fun c82 => ?_) (fun c82 => ?_)
              · replace c82 := b2i_T c82
                try simp only [Int32.lt_iff_toInt_lt, Int32.le_iff_toInt_le, ← Int32.toInt_inj, Int64.lt_iff_toInt_lt, Int64.le_iff_toInt_le, ← Int64.toInt_inj, Int32.toInt_toInt64, i_l0, i_l1, i_l2, i_l5, i_l19, i_m1, j_l0, j_l1, j_l5, i_l3, i_l4, i_l6, i_l7, i_l8, i_l9, i_l12, i_l16, i_l20, i_l60, i_l64, i_l100, i_l200, i_l304, i_l2000, i_l10000, i_l100000, i_l1000000, i_n1000000, i_n19, i_n101] at c82
                obtain ⟨k1, rfl, ek1, lk1⟩ := i_nat (show 0 ≤ k.toInt by omega)
                refine EV.aload (pc := 91) dX4_draw_91 rfl ?_
                refine EV.aload (pc := 93) dX4_draw_93 rfl ?_
                refine EV.getf (pc := 95) dX4_draw_95 fgX4_93 (show 10 + 2 * p < 54 by omega) (hw.pl' hp) rfl ?_
                refine EV.putf (pc := 98) dX4_draw_98 fpX4_141 (show 22 + 3 * c < 54 by omega) (hw.kb' hc4) rfl rfl (Nat.le_of_ble_eq_true rfl) ?_
                refine EV.abs (Pr := CW G ad (S_co s (va_up (s_co s) c (s_w s p))) z hm) (hw.set_co c (s_w s p) hc4) (fun h hw => ?_)
                refine EV.iconst (pc := 101) (v := 0) dX4_draw_101 (by decide) ?_
                refine EV.istore (pc := 102) dX4_draw_102 (by decide) (by dsimp only [lst1, lk] <;> rfl) ?_
                have e2 : g_draw s c p f (nI k1).toInt = (nI (s_w s p), sE s c p f (k1 : Int)) := by unfold g_draw; rw [if_pos (by omega), if_neg (by simp [c58, c66]), if_pos c82, ek1]
                rw [e2]
                refine l_draw c p f k1 _ _ _ hI hc4 hp hf c82.1 c82.2 (by omega) (s_w s p) 0 z h (by omega) ?_
                have e4 : nmD s c p f (k1 : Int) 0 = s_nm s c := by funext x; simp [nmD]
                have e3 : sD s c p f (k1 : Int) 0 = S_co s (va_up (s_co s) c (s_w s p)) := by unfold sD; rw [e4, va_up_id]
                rw [e3]
                exact hw
              · replace c82 := b2i_F c82
                try simp only [Int32.lt_iff_toInt_lt, Int32.le_iff_toInt_le, ← Int32.toInt_inj, Int64.lt_iff_toInt_lt, Int64.le_iff_toInt_le, ← Int64.toInt_inj, Int32.toInt_toInt64, i_l0, i_l1, i_l2, i_l5, i_l19, i_m1, j_l0, j_l1, j_l5, i_l3, i_l4, i_l6, i_l7, i_l8, i_l9, i_l12, i_l16, i_l20, i_l60, i_l64, i_l100, i_l200, i_l304, i_l2000, i_l10000, i_l100000, i_l1000000, i_n1000000, i_n19, i_n101] at c82
                refine EV.aload_n (pc := 85) dX4_draw_85 rfl ?_
                refine EV.iconst (pc := 86) (v := 5) dX4_draw_86 (by decide) ?_
                refine EV.callVPi (pc := 87) (M' := M_X4_caused) dX4_draw_87 lkX4_63 okV_X4_caused (m_caused 5 hw (by omega)) (by decide) rfl rfl (Nat.le_of_ble_eq_true rfl) (by decide) hw.h0 (fun h hw => ?_)
                refine EV.topi (y := -15) (by decide +kernel) ?_
                refine EV.iret (pc := 90) dX4_draw_90 trivial ?_
                exact PC.i (by unfold g_draw; rw [if_pos (by omega), if_neg (by simp [c58, c66]), if_neg c82]) hw
            · replace c66 := b2i_ne c66
              refine EV.aload_n (pc := 69) dX4_draw_69 rfl ?_
              refine EV.iconst (pc := 70) (v := 1) dX4_draw_70 (by decide) ?_
              refine EV.callVPi (pc := 71) (M' := M_X4_caused) dX4_draw_71 lkX4_63 okV_X4_caused (m_caused 1 hw (by omega)) (by decide) rfl rfl (Nat.le_of_ble_eq_true rfl) (by decide) hw.h0 (fun h hw => ?_)
              refine EV.topi (y := -11) (by decide +kernel) ?_
              refine EV.iret (pc := 74) dX4_draw_74 trivial ?_
              exact PC.i (by unfold g_draw; rw [if_pos (by omega), if_pos (by first | exact Or.inl c58 | exact Or.inr c66)]) hw
        · replace c47 := b2i_F c47
          try simp only [Int32.lt_iff_toInt_lt, Int32.le_iff_toInt_le, ← Int32.toInt_inj, Int64.lt_iff_toInt_lt, Int64.le_iff_toInt_le, ← Int64.toInt_inj, Int32.toInt_toInt64, i_l0, i_l1, i_l2, i_l5, i_l19, i_m1, j_l0, j_l1, j_l5, i_l3, i_l4, i_l6, i_l7, i_l8, i_l9, i_l12, i_l16, i_l20, i_l60, i_l64, i_l100, i_l200, i_l304, i_l2000, i_l10000, i_l100000, i_l1000000, i_n1000000, i_n19, i_n101] at c47
          refine EV.bipush (pc := 50) (v := -102) dX4_draw_50 (by decide) ?_
          refine EV.iret (pc := 52) dX4_draw_52 trivial ?_
          exact PC.i (by unfold g_draw; rw [if_neg (by omega)]) hw
      · have e0 : f_draw s (nI c) (nI p) w k = (-101, s) := by unfold f_draw; rw [if_neg (fun q => hpf q.2.2)]
        rw [e0]
        refine MC.of (by decide +kernel) (Nat.le_of_ble_eq_true rfl) (by dsimp only [linit, Nat.reduceSub, List.reduceReplicate] <;> rfl) ?_
        refine EV.aload_n (pc := 0) dX4_draw_0 rfl ?_
        refine EV.iload_n (pc := 1) dX4_draw_1 rfl ?_
        refine EV.callVR1 (pc := 2) (M' := M_X4_combOf) dX4_draw_2 lkX4_122 okV_X4_combOf (m_combOf c hw hc hcn) (by decide) rfl rfl (Nat.le_of_ble_eq_true rfl) (by decide) hw.h0 ?_
        refine EV.astore (pc := 5) dX4_draw_5 (by decide) (by dsimp only [lst1, lk] <;> rfl) ?_
        refine EV.aload_n (pc := 7) dX4_draw_7 rfl ?_
        refine EV.iload_n (pc := 8) dX4_draw_8 rfl ?_
        refine EV.callVR1 (pc := 9) (M' := M_X4_plateOf) dX4_draw_9 lkX4_55 okV_X4_plateOf (m_plateOf p hw hp) (by decide) rfl rfl (Nat.le_of_ble_eq_true rfl) (by decide) hw.h0 ?_
        refine EV.astore (pc := 12) dX4_draw_12 (by decide) (by dsimp only [lst1, lk] <;> rfl) ?_
        refine EV.aload_n (pc := 14) dX4_draw_14 rfl ?_
        refine EV.iload_n (pc := 15) dX4_draw_15 rfl ?_
        refine EV.callVR1 (pc := 16) (M' := M_X4_plateOf) dX4_draw_16 lkX4_55 okV_X4_plateOf (m_plateOfN w hw hpf) (by decide) rfl rfl (Nat.le_of_ble_eq_true rfl) (by decide) hw.h0 ?_
        refine EV.astoreN (pc := 19) dX4_draw_19 (by decide) (by dsimp only [lst1, lk] <;> rfl) ?_
        refine EV.aload (pc := 21) dX4_draw_21 rfl ?_
        refine EV.ifnull (pc := 23) dX4_draw_23 ?_
        refine EV.aload (pc := 26) dX4_draw_26 rfl ?_
        refine EV.ifnull (pc := 28) dX4_draw_28 ?_
        refine EV.aloadN (pc := 31) dX4_draw_31 rfl ?_
        refine EV.ifnonnullN (pc := 33) dX4_draw_33 ?_
        refine EV.bipush (pc := 36) (v := -101) dX4_draw_36 (by decide) ?_
        exact EV.iret (pc := 38) dX4_draw_38 trivial ⟨rfl, z, hw⟩
    · by_cases hpf : 0 ≤ w.toInt ∧ w.toInt ≤ 5
      · obtain ⟨f, rfl, ef, lf⟩ := i_nat hpf.1
        have hf : f < 6 := by omega
        have hdf := hI.1 f hf
        have e0 : f_draw s (nI c) v (nI f) k = (-101, s) := by unfold f_draw; rw [if_neg (fun q => hpp q.2.1)]
        rw [e0]
        refine MC.of (by decide +kernel) (Nat.le_of_ble_eq_true rfl) (by dsimp only [linit, Nat.reduceSub, List.reduceReplicate] <;> rfl) ?_
        refine EV.aload_n (pc := 0) dX4_draw_0 rfl ?_
        refine EV.iload_n (pc := 1) dX4_draw_1 rfl ?_
        refine EV.callVR1 (pc := 2) (M' := M_X4_combOf) dX4_draw_2 lkX4_122 okV_X4_combOf (m_combOf c hw hc hcn) (by decide) rfl rfl (Nat.le_of_ble_eq_true rfl) (by decide) hw.h0 ?_
        refine EV.astore (pc := 5) dX4_draw_5 (by decide) (by dsimp only [lst1, lk] <;> rfl) ?_
        refine EV.aload_n (pc := 7) dX4_draw_7 rfl ?_
        refine EV.iload_n (pc := 8) dX4_draw_8 rfl ?_
        refine EV.callVR1 (pc := 9) (M' := M_X4_plateOf) dX4_draw_9 lkX4_55 okV_X4_plateOf (m_plateOfN v hw hpp) (by decide) rfl rfl (Nat.le_of_ble_eq_true rfl) (by decide) hw.h0 ?_
        refine EV.astoreN (pc := 12) dX4_draw_12 (by decide) (by dsimp only [lst1, lk] <;> rfl) ?_
        refine EV.aload_n (pc := 14) dX4_draw_14 rfl ?_
        refine EV.iload_n (pc := 15) dX4_draw_15 rfl ?_
        refine EV.callVR1 (pc := 16) (M' := M_X4_plateOf) dX4_draw_16 lkX4_55 okV_X4_plateOf (m_plateOf f hw hf) (by decide) rfl rfl (Nat.le_of_ble_eq_true rfl) (by decide) hw.h0 ?_
        refine EV.astore (pc := 19) dX4_draw_19 (by decide) (by dsimp only [lst1, lk] <;> rfl) ?_
        refine EV.aload (pc := 21) dX4_draw_21 rfl ?_
        refine EV.ifnull (pc := 23) dX4_draw_23 ?_
        refine EV.aloadN (pc := 26) dX4_draw_26 rfl ?_
        refine EV.ifnullN (pc := 28) (tgt := 36) dX4_draw_28 (by decide) ?_
        refine EV.bipush (pc := 36) (v := -101) dX4_draw_36 (by decide) ?_
        exact EV.iret (pc := 38) dX4_draw_38 trivial ⟨rfl, z, hw⟩
      · have e0 : f_draw s (nI c) v w k = (-101, s) := by unfold f_draw; rw [if_neg (fun q => hpp q.2.1)]
        rw [e0]
        refine MC.of (by decide +kernel) (Nat.le_of_ble_eq_true rfl) (by dsimp only [linit, Nat.reduceSub, List.reduceReplicate] <;> rfl) ?_
        refine EV.aload_n (pc := 0) dX4_draw_0 rfl ?_
        refine EV.iload_n (pc := 1) dX4_draw_1 rfl ?_
        refine EV.callVR1 (pc := 2) (M' := M_X4_combOf) dX4_draw_2 lkX4_122 okV_X4_combOf (m_combOf c hw hc hcn) (by decide) rfl rfl (Nat.le_of_ble_eq_true rfl) (by decide) hw.h0 ?_
        refine EV.astore (pc := 5) dX4_draw_5 (by decide) (by dsimp only [lst1, lk] <;> rfl) ?_
        refine EV.aload_n (pc := 7) dX4_draw_7 rfl ?_
        refine EV.iload_n (pc := 8) dX4_draw_8 rfl ?_
        refine EV.callVR1 (pc := 9) (M' := M_X4_plateOf) dX4_draw_9 lkX4_55 okV_X4_plateOf (m_plateOfN v hw hpp) (by decide) rfl rfl (Nat.le_of_ble_eq_true rfl) (by decide) hw.h0 ?_
        refine EV.astoreN (pc := 12) dX4_draw_12 (by decide) (by dsimp only [lst1, lk] <;> rfl) ?_
        refine EV.aload_n (pc := 14) dX4_draw_14 rfl ?_
        refine EV.iload_n (pc := 15) dX4_draw_15 rfl ?_
        refine EV.callVR1 (pc := 16) (M' := M_X4_plateOf) dX4_draw_16 lkX4_55 okV_X4_plateOf (m_plateOfN w hw hpf) (by decide) rfl rfl (Nat.le_of_ble_eq_true rfl) (by decide) hw.h0 ?_
        refine EV.astoreN (pc := 19) dX4_draw_19 (by decide) (by dsimp only [lst1, lk] <;> rfl) ?_
        refine EV.aload (pc := 21) dX4_draw_21 rfl ?_
        refine EV.ifnull (pc := 23) dX4_draw_23 ?_
        refine EV.aloadN (pc := 26) dX4_draw_26 rfl ?_
        refine EV.ifnullN (pc := 28) (tgt := 36) dX4_draw_28 (by decide) ?_
        refine EV.bipush (pc := 36) (v := -101) dX4_draw_36 (by decide) ?_
        exact EV.iret (pc := 38) dX4_draw_38 trivial ⟨rfl, z, hw⟩
  · by_cases hpp : 0 ≤ v.toInt ∧ v.toInt ≤ 5
    · obtain ⟨p, rfl, ep, lp⟩ := i_nat hpp.1
      have hp : p < 6 := by omega
      have hdp := hI.1 p hp
      by_cases hpf : 0 ≤ w.toInt ∧ w.toInt ≤ 5
      · obtain ⟨f, rfl, ef, lf⟩ := i_nat hpf.1
        have hf : f < 6 := by omega
        have hdf := hI.1 f hf
        have e0 : f_draw s u (nI p) (nI f) k = (-101, s) := by unfold f_draw; rw [if_neg (fun q => hpc q.1)]
        rw [e0]
        refine MC.of (by decide +kernel) (Nat.le_of_ble_eq_true rfl) (by dsimp only [linit, Nat.reduceSub, List.reduceReplicate] <;> rfl) ?_
        refine EV.aload_n (pc := 0) dX4_draw_0 rfl ?_
        refine EV.iload_n (pc := 1) dX4_draw_1 rfl ?_
        refine EV.callVR1 (pc := 2) (M' := M_X4_combOf) dX4_draw_2 lkX4_122 okV_X4_combOf (m_combOfN u hw hpc hcn) (by decide) rfl rfl (Nat.le_of_ble_eq_true rfl) (by decide) hw.h0 ?_
        refine EV.astoreN (pc := 5) dX4_draw_5 (by decide) (by dsimp only [lst1, lk] <;> rfl) ?_
        refine EV.aload_n (pc := 7) dX4_draw_7 rfl ?_
        refine EV.iload_n (pc := 8) dX4_draw_8 rfl ?_
        refine EV.callVR1 (pc := 9) (M' := M_X4_plateOf) dX4_draw_9 lkX4_55 okV_X4_plateOf (m_plateOf p hw hp) (by decide) rfl rfl (Nat.le_of_ble_eq_true rfl) (by decide) hw.h0 ?_
        refine EV.astore (pc := 12) dX4_draw_12 (by decide) (by dsimp only [lst1, lk] <;> rfl) ?_
        refine EV.aload_n (pc := 14) dX4_draw_14 rfl ?_
        refine EV.iload_n (pc := 15) dX4_draw_15 rfl ?_
        refine EV.callVR1 (pc := 16) (M' := M_X4_plateOf) dX4_draw_16 lkX4_55 okV_X4_plateOf (m_plateOf f hw hf) (by decide) rfl rfl (Nat.le_of_ble_eq_true rfl) (by decide) hw.h0 ?_
        refine EV.astore (pc := 19) dX4_draw_19 (by decide) (by dsimp only [lst1, lk] <;> rfl) ?_
        refine EV.aloadN (pc := 21) dX4_draw_21 rfl ?_
        refine EV.ifnullN (pc := 23) (tgt := 36) dX4_draw_23 (by decide) ?_
        refine EV.bipush (pc := 36) (v := -101) dX4_draw_36 (by decide) ?_
        exact EV.iret (pc := 38) dX4_draw_38 trivial ⟨rfl, z, hw⟩
      · have e0 : f_draw s u (nI p) w k = (-101, s) := by unfold f_draw; rw [if_neg (fun q => hpc q.1)]
        rw [e0]
        refine MC.of (by decide +kernel) (Nat.le_of_ble_eq_true rfl) (by dsimp only [linit, Nat.reduceSub, List.reduceReplicate] <;> rfl) ?_
        refine EV.aload_n (pc := 0) dX4_draw_0 rfl ?_
        refine EV.iload_n (pc := 1) dX4_draw_1 rfl ?_
        refine EV.callVR1 (pc := 2) (M' := M_X4_combOf) dX4_draw_2 lkX4_122 okV_X4_combOf (m_combOfN u hw hpc hcn) (by decide) rfl rfl (Nat.le_of_ble_eq_true rfl) (by decide) hw.h0 ?_
        refine EV.astoreN (pc := 5) dX4_draw_5 (by decide) (by dsimp only [lst1, lk] <;> rfl) ?_
        refine EV.aload_n (pc := 7) dX4_draw_7 rfl ?_
        refine EV.iload_n (pc := 8) dX4_draw_8 rfl ?_
        refine EV.callVR1 (pc := 9) (M' := M_X4_plateOf) dX4_draw_9 lkX4_55 okV_X4_plateOf (m_plateOf p hw hp) (by decide) rfl rfl (Nat.le_of_ble_eq_true rfl) (by decide) hw.h0 ?_
        refine EV.astore (pc := 12) dX4_draw_12 (by decide) (by dsimp only [lst1, lk] <;> rfl) ?_
        refine EV.aload_n (pc := 14) dX4_draw_14 rfl ?_
        refine EV.iload_n (pc := 15) dX4_draw_15 rfl ?_
        refine EV.callVR1 (pc := 16) (M' := M_X4_plateOf) dX4_draw_16 lkX4_55 okV_X4_plateOf (m_plateOfN w hw hpf) (by decide) rfl rfl (Nat.le_of_ble_eq_true rfl) (by decide) hw.h0 ?_
        refine EV.astoreN (pc := 19) dX4_draw_19 (by decide) (by dsimp only [lst1, lk] <;> rfl) ?_
        refine EV.aloadN (pc := 21) dX4_draw_21 rfl ?_
        refine EV.ifnullN (pc := 23) (tgt := 36) dX4_draw_23 (by decide) ?_
        refine EV.bipush (pc := 36) (v := -101) dX4_draw_36 (by decide) ?_
        exact EV.iret (pc := 38) dX4_draw_38 trivial ⟨rfl, z, hw⟩
    · by_cases hpf : 0 ≤ w.toInt ∧ w.toInt ≤ 5
      · obtain ⟨f, rfl, ef, lf⟩ := i_nat hpf.1
        have hf : f < 6 := by omega
        have hdf := hI.1 f hf
        have e0 : f_draw s u v (nI f) k = (-101, s) := by unfold f_draw; rw [if_neg (fun q => hpc q.1)]
        rw [e0]
        refine MC.of (by decide +kernel) (Nat.le_of_ble_eq_true rfl) (by dsimp only [linit, Nat.reduceSub, List.reduceReplicate] <;> rfl) ?_
        refine EV.aload_n (pc := 0) dX4_draw_0 rfl ?_
        refine EV.iload_n (pc := 1) dX4_draw_1 rfl ?_
        refine EV.callVR1 (pc := 2) (M' := M_X4_combOf) dX4_draw_2 lkX4_122 okV_X4_combOf (m_combOfN u hw hpc hcn) (by decide) rfl rfl (Nat.le_of_ble_eq_true rfl) (by decide) hw.h0 ?_
        refine EV.astoreN (pc := 5) dX4_draw_5 (by decide) (by dsimp only [lst1, lk] <;> rfl) ?_
        refine EV.aload_n (pc := 7) dX4_draw_7 rfl ?_
        refine EV.iload_n (pc := 8) dX4_draw_8 rfl ?_
        refine EV.callVR1 (pc := 9) (M' := M_X4_plateOf) dX4_draw_9 lkX4_55 okV_X4_plateOf (m_plateOfN v hw hpp) (by decide) rfl rfl (Nat.le_of_ble_eq_true rfl) (by decide) hw.h0 ?_
        refine EV.astoreN (pc := 12) dX4_draw_12 (by decide) (by dsimp only [lst1, lk] <;> rfl) ?_
        refine EV.aload_n (pc := 14) dX4_draw_14 rfl ?_
        refine EV.iload_n (pc := 15) dX4_draw_15 rfl ?_
        refine EV.callVR1 (pc := 16) (M' := M_X4_plateOf) dX4_draw_16 lkX4_55 okV_X4_plateOf (m_plateOf f hw hf) (by decide) rfl rfl (Nat.le_of_ble_eq_true rfl) (by decide) hw.h0 ?_
        refine EV.astore (pc := 19) dX4_draw_19 (by decide) (by dsimp only [lst1, lk] <;> rfl) ?_
        refine EV.aloadN (pc := 21) dX4_draw_21 rfl ?_
        refine EV.ifnullN (pc := 23) (tgt := 36) dX4_draw_23 (by decide) ?_
        refine EV.bipush (pc := 36) (v := -101) dX4_draw_36 (by decide) ?_
        exact EV.iret (pc := 38) dX4_draw_38 trivial ⟨rfl, z, hw⟩
      · have e0 : f_draw s u v w k = (-101, s) := by unfold f_draw; rw [if_neg (fun q => hpc q.1)]
        rw [e0]
        refine MC.of (by decide +kernel) (Nat.le_of_ble_eq_true rfl) (by dsimp only [linit, Nat.reduceSub, List.reduceReplicate] <;> rfl) ?_
        refine EV.aload_n (pc := 0) dX4_draw_0 rfl ?_
        refine EV.iload_n (pc := 1) dX4_draw_1 rfl ?_
        refine EV.callVR1 (pc := 2) (M' := M_X4_combOf) dX4_draw_2 lkX4_122 okV_X4_combOf (m_combOfN u hw hpc hcn) (by decide) rfl rfl (Nat.le_of_ble_eq_true rfl) (by decide) hw.h0 ?_
        refine EV.astoreN (pc := 5) dX4_draw_5 (by decide) (by dsimp only [lst1, lk] <;> rfl) ?_
        refine EV.aload_n (pc := 7) dX4_draw_7 rfl ?_
        refine EV.iload_n (pc := 8) dX4_draw_8 rfl ?_
        refine EV.callVR1 (pc := 9) (M' := M_X4_plateOf) dX4_draw_9 lkX4_55 okV_X4_plateOf (m_plateOfN v hw hpp) (by decide) rfl rfl (Nat.le_of_ble_eq_true rfl) (by decide) hw.h0 ?_
        refine EV.astoreN (pc := 12) dX4_draw_12 (by decide) (by dsimp only [lst1, lk] <;> rfl) ?_
        refine EV.aload_n (pc := 14) dX4_draw_14 rfl ?_
        refine EV.iload_n (pc := 15) dX4_draw_15 rfl ?_
        refine EV.callVR1 (pc := 16) (M' := M_X4_plateOf) dX4_draw_16 lkX4_55 okV_X4_plateOf (m_plateOfN w hw hpf) (by decide) rfl rfl (Nat.le_of_ble_eq_true rfl) (by decide) hw.h0 ?_
        refine EV.astoreN (pc := 19) dX4_draw_19 (by decide) (by dsimp only [lst1, lk] <;> rfl) ?_
        refine EV.aloadN (pc := 21) dX4_draw_21 rfl ?_
        refine EV.ifnullN (pc := 23) (tgt := 36) dX4_draw_23 (by decide) ?_
        refine EV.bipush (pc := 36) (v := -101) dX4_draw_36 (by decide) ?_
        exact EV.iret (pc := 38) dX4_draw_38 trivial ⟨rfl, z, hw⟩
