/-! WHAT EACH CALL ANSWERS AND DOES, in plain words; class and reference are both held to these. -/
def pOk (p : Int32) : Prop := 0 ≤ p.toInt ∧ p.toInt ≤ 5
theorem pOk_dec (p : Int32) : pOk p ∨ ¬ pOk p := Classical.em _
/-- a call's end: the answer, and the new state -/
def PC (G : eG) (ad : Nat → Nat) (hm : Nat → va_E) (v : Value) (s : St) : eP := fun v' h' => v' = some v ∧ ∃ z : Zc, CW G ad s z hm h'
def PM (G : eG) (ad : Nat → Nat) (hm : Nat → va_E) (v : Value) (s : St) : eP := fun v' h' => v' = some v ∧ ∃ z : Zm, MW G ad s z hm h'
theorem PC.mk {G : eG} {ad : Nat → Nat} {hm h : Nat → va_E} {v v' : Value} {s s' : St} {z : Zc} (hv : v = v') (hs : s = s') (hw : CW G ad s z hm h) : PC G ad hm v' s' (some v) h := by subst hv; subst hs; exact ⟨rfl, z, hw⟩
theorem PM.mk {G : eG} {ad : Nat → Nat} {hm h : Nat → va_E} {v v' : Value} {s s' : St} {z : Zm} (hv : v = v') (hs : s = s') (hw : MW G ad s z hm h) : PM G ad hm v' s' (some v) h := by subst hv; subst hs; exact ⟨rfl, z, hw⟩
theorem PC.to {G : eG} {ad : Nat → Nat} {hm h : Nat → va_E} {v v' : Value} {s s' : St} {z : Zc} {r : Int32 × St} (e : (v, s) = (Value.int r.1, r.2)) (hw : CW G ad s z hm h) : PC G ad hm (.int r.1) r.2 (some v) h := by
  have e1 := (Prod.mk.inj e).1
  have e2 := (Prod.mk.inj e).2
  exact PC.mk e1 e2 hw
theorem PC.i {G : eG} {ad : Nat → Nat} {hm h : Nat → va_E} {x : Int32} {s : St} {z : Zc} {r : Int32 × St} (e : r = (x, s)) (hw : CW G ad s z hm h) : PC G ad hm (.int r.1) r.2 (some (.int x)) h := by subst e; exact ⟨rfl, z, hw⟩
theorem PM.i {G : eG} {ad : Nat → Nat} {hm h : Nat → va_E} {x : Int32} {s : St} {z : Zm} {r : Int32 × St} (e : r = (x, s)) (hw : MW G ad s z hm h) : PM G ad hm (.int r.1) r.2 (some (.int x)) h := by subst e; exact ⟨rfl, z, hw⟩
theorem nI_tn {k : Nat} (h : k < 2147483648) : (nI k).toInt.toNat = k := by rw [nI_t h]; rfl

def g_lose (s : St) (k : Nat) : Int32 × St := if s_lost s k = true then (-11, f_caus s 1) else (1, S_lost s (va_up (s_lost s) k true))
def f_lose (s : St) (p : Int32) : Int32 × St := if 0 ≤ p.toInt ∧ p.toInt ≤ 5 then g_lose s p.toInt.toNat else (-101, s)

def g_look (s : St) (k : Nat) (x y : Int32) : Int32 × St := if s_lost s k = true then (-11, f_caus s 1) else if 0 ≤ x.toInt ∧ x.toInt < s_w s k ∧ 0 ≤ y.toInt ∧ y.toInt < s_h s k then (1, S_sn s (s_ct s k (y.toInt.toNat * 20 + x.toInt.toNat))) else (-12, f_caus s 2)
def f_look (s : St) (p x y : Int32) : Int32 × St := if 0 ≤ p.toInt ∧ p.toInt ≤ 5 then g_look s p.toInt.toNat x y else (-101, s)
def g_put (s : St) (k : Nat) (lane x y v : Int32) : Int32 × St := if 0 ≤ lane.toInt ∧ lane.toInt ≤ 2 then (if s_lost s k = true then (-11, f_caus s 1) else if nI (s_lane s k) = lane then (if 0 ≤ x.toInt ∧ x.toInt < s_w s k ∧ 0 ≤ y.toInt ∧ y.toInt < s_h s k then (1, S_ct s (va_up (s_ct s) k (upd (s_ct s k) (y.toInt.toNat * 20 + x.toInt.toNat) (iCast v (nI (s_lane s k)))))) else (-12, f_caus s 2)) else (-14, f_caus s 4)) else (-102, s)
def f_put (s : St) (p lane x y v : Int32) : Int32 × St := if 0 ≤ p.toInt ∧ p.toInt ≤ 5 then g_put s p.toInt.toNat lane x y v else (-101, s)
def g_plate (s : St) (k : Nat) (lane w t : Int32) : Int32 × St := if (0 ≤ lane.toInt ∧ lane.toInt ≤ 2) ∧ w.toInt ≠ 0 ∧ w.toInt ≤ 20 ∧ t.toInt ≠ 0 ∧ t.toInt ≤ 20 then (if w.toInt < 0 ∨ t.toInt < 0 then (-13, f_caus s 3) else (w, S_ct (S_h (S_w (S_lane (S_lost s (va_up (s_lost s) k false)) (va_up (s_lane s) k lane.toInt.toNat)) (va_up (s_w s) k w.toInt.toNat)) (va_up (s_h s) k t.toInt.toNat)) (va_up (s_ct s) k (fz (s_ct s k) 400)))) else (-102, s)
def f_plate (s : St) (p lane w t : Int32) : Int32 × St := if 0 ≤ p.toInt ∧ p.toInt ≤ 5 then g_plate s p.toInt.toNat lane w t else (-101, s)
def f_bad (s : St) (x y : Int32) (b : Bool) : Int32 × St := if 0 ≤ x.toInt ∧ x.toInt ≤ 19 ∧ 0 ≤ y.toInt ∧ y.toInt ≤ 19 then (b2i (s_bad s (y.toInt.toNat * 20 + x.toInt.toNat)), S_bad s (va_up (s_bad s) (y.toInt.toNat * 20 + x.toInt.toNat) b)) else (-102, s)
def f_clear (s : St) : Int32 × St := (nI (s_lc s), S_lc s 0)
def f_causes (s : St) (c : Int32) : Int32 := if 1 ≤ c.toInt ∧ c.toInt ≤ 5 then s_cc s c.toInt.toNat else -102
def f_line (s : St) (u : Int32) : Int32 × St := if (1 ≤ u.toInt ∧ u.toInt ≤ 1000000) ∧ (s_lc s = 0 ∨ (s_ln s (s_lc s - 1)).toInt < u.toInt) then (if s_lc s < 12 then (nI (s_lc s + 1), S_lc (S_ln s (upd (s_ln s) (s_lc s) u)) (s_lc s + 1)) else (-104, s)) else (-102, s)
def f_comb (s : St) (a b r : Int32) : Int32 × St := if (0 ≤ a.toInt ∧ a.toInt ≤ 304) ∧ (0 ≤ b.toInt ∧ b.toInt ≤ 304) ∧ (0 ≤ r.toInt ∧ r.toInt ≤ 3) then (if s_cn s < 4 then (nI (s_cn s), S_cn (S_cr (S_cb (S_ca s (va_up (s_ca s) (s_cn s) a.toInt.toNat)) (va_up (s_cb s) (s_cn s) b.toInt.toNat)) (va_up (s_cr s) (s_cn s) r.toInt.toNat)) (s_cn s + 1)) else (-104, s)) else (-102, s)
def g_fact (s : St) (c : Nat) (w : Nat) : Int32 := match w with
  | 0 => nI (s_ca s c)
  | 1 => nI (s_cb s c)
  | 2 => nI (s_cr s c)
  | 3 => nI (s_co s c)
  | 4 => b2i (s_li s c)
  | 5 => s_lA s c
  | 6 => s_lB s c
  | _ => s_lF s c
def f_told (s : St) (c w : Int32) : Int32 := if 0 ≤ c.toInt ∧ c.toInt < s_cn s then (if 0 ≤ w.toInt ∧ w.toInt ≤ 7 then g_fact s c.toInt.toNat w.toInt.toNat else -102) else -101
def f_number (s : St) (c x : Int32) : Int64 := if 0 ≤ c.toInt ∧ c.toInt < s_cn s then (if 0 ≤ x.toInt ∧ x.toInt < s_co s c.toInt.toNat then lN (s_nm s c.toInt.toNat x.toInt.toNat) else -1) else -101
def g_law (s : St) (k : Nat) (a b : Int32) : Int32 × St := if (-1000000 ≤ a.toInt ∧ a.toInt ≤ 1000000) ∧ 1 ≤ b.toInt ∧ b.toInt ≤ 100000 then (if s_co s k = 0 then (-103, s) else (1, S_lF (S_lB (S_lA (S_li s (va_up (s_li s) k true)) (va_up (s_lA s) k a)) (va_up (s_lB s) k b)) (va_up (s_lF s) k 0))) else (-102, s)
def f_law (s : St) (c a b : Int32) : Int32 × St := if 0 ≤ c.toInt ∧ c.toInt < s_cn s then g_law s c.toInt.toNat a b else (-101, s)
/-- the wave of a place z under the law (a, b) -/
def wv (a b z : Int) : Int := a + b * z / 64
def f_wave (s : St) (c z : Int32) : Int32 := if 0 ≤ c.toInt ∧ c.toInt < s_cn s then (if 0 ≤ z.toInt ∧ z.toInt ≤ 2000 then (if s_li s c.toInt.toNat = true then iI (wv (s_lA s c.toInt.toNat).toInt (s_lB s c.toInt.toNat).toInt z.toInt) else -2000000002) else -2000000001) else -2000000000
def f_joined (s : St) (k : Int32) : Int64 := if 0 ≤ k.toInt ∧ k.toInt < s_gc s then s_gr s k.toInt.toNat else -1
