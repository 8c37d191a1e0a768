theorem ic_id (v l : Int32) : iCast (iCast v l) l = iCast v l := by
  unfold iCast
  split
  · rw [Int8.toInt8_toInt32]
  · split
    · rw [Int16.toInt16_toInt32]
    · rfl

set_option maxHeartbeats 4000000 in
theorem iv_caus {s : St} (hI : Inv s) (k : Nat) : Inv (f_caus s k) := by
  obtain ⟨a1, a2, a3, a4, a5, a6, a7, a8, a9, a10, a11, a12, a13, a14, a15, a16, a17, a18, a19, a20, a21, a22, a23, a24⟩ := s
  simp only [Inv, f_caus, s_lost, s_lane, s_w, s_h, s_ct, s_bad, s_cn, s_ca, s_cb, s_cr, s_co, s_nm, s_li, s_lA, s_lB, s_lF, s_lc, s_ln, s_gc, s_gr, s_sn, s_cs, s_cc, s_md, S_lost, S_lane, S_w, S_h, S_ct, S_bad, S_cn, S_ca, S_cb, S_cr, S_co, S_nm, S_li, S_lA, S_lB, S_lF, S_lc, S_ln, S_gc, S_gr, S_sn, S_cs, S_cc, S_md] at hI ⊢
  obtain ⟨h1, h2, h3, h4, h5, h6, h7, h8, h9, h10, h11, h12, h13⟩ := hI
  exact ⟨h1, h2, h3, h4, h5, h6, h7, h8, h9, h10, h11, h12, h13⟩

set_option maxHeartbeats 4000000 in
theorem iv_sn {s : St} (hI : Inv s) (v : Int32) : Inv (S_sn s v) := by
  obtain ⟨a1, a2, a3, a4, a5, a6, a7, a8, a9, a10, a11, a12, a13, a14, a15, a16, a17, a18, a19, a20, a21, a22, a23, a24⟩ := s
  simp only [Inv, s_lost, s_lane, s_w, s_h, s_ct, s_bad, s_cn, s_ca, s_cb, s_cr, s_co, s_nm, s_li, s_lA, s_lB, s_lF, s_lc, s_ln, s_gc, s_gr, s_sn, s_cs, s_cc, s_md, S_lost, S_lane, S_w, S_h, S_ct, S_bad, S_cn, S_ca, S_cb, S_cr, S_co, S_nm, S_li, S_lA, S_lB, S_lF, S_lc, S_ln, S_gc, S_gr, S_sn, S_cs, S_cc, S_md] at hI ⊢
  obtain ⟨h1, h2, h3, h4, h5, h6, h7, h8, h9, h10, h11, h12, h13⟩ := hI
  exact ⟨h1, h2, h3, h4, h5, h6, h7, h8, h9, h10, h11, h12, h13⟩

set_option maxHeartbeats 4000000 in
theorem iv_bad {s : St} (hI : Inv s) (F : Nat → Bool) : Inv (S_bad s F) := by
  obtain ⟨a1, a2, a3, a4, a5, a6, a7, a8, a9, a10, a11, a12, a13, a14, a15, a16, a17, a18, a19, a20, a21, a22, a23, a24⟩ := s
  simp only [Inv, s_lost, s_lane, s_w, s_h, s_ct, s_bad, s_cn, s_ca, s_cb, s_cr, s_co, s_nm, s_li, s_lA, s_lB, s_lF, s_lc, s_ln, s_gc, s_gr, s_sn, s_cs, s_cc, s_md, S_lost, S_lane, S_w, S_h, S_ct, S_bad, S_cn, S_ca, S_cb, S_cr, S_co, S_nm, S_li, S_lA, S_lB, S_lF, S_lc, S_ln, S_gc, S_gr, S_sn, S_cs, S_cc, S_md] at hI ⊢
  obtain ⟨h1, h2, h3, h4, h5, h6, h7, h8, h9, h10, h11, h12, h13⟩ := hI
  exact ⟨h1, h2, h3, h4, h5, h6, h7, h8, h9, h10, h11, h12, h13⟩

set_option maxHeartbeats 4000000 in
theorem iv_lc0 {s : St} (hI : Inv s)  : Inv (S_lc s 0) := by
  obtain ⟨a1, a2, a3, a4, a5, a6, a7, a8, a9, a10, a11, a12, a13, a14, a15, a16, a17, a18, a19, a20, a21, a22, a23, a24⟩ := s
  simp only [Inv, s_lost, s_lane, s_w, s_h, s_ct, s_bad, s_cn, s_ca, s_cb, s_cr, s_co, s_nm, s_li, s_lA, s_lB, s_lF, s_lc, s_ln, s_gc, s_gr, s_sn, s_cs, s_cc, s_md, S_lost, S_lane, S_w, S_h, S_ct, S_bad, S_cn, S_ca, S_cb, S_cr, S_co, S_nm, S_li, S_lA, S_lB, S_lF, S_lc, S_ln, S_gc, S_gr, S_sn, S_cs, S_cc, S_md] at hI ⊢
  obtain ⟨h1, h2, h3, h4, h5, h6, h7, h8, h9, h10, h11, h12, h13⟩ := hI
  refine ⟨h1, h2, h3, h4, h5, h6, h7, ?_, ?_, h10, h11, h12, h13⟩
  · omega
  · intro i hi
    omega

set_option maxHeartbeats 4000000 in
theorem iv_md {s : St} (hI : Inv s) (hm : s_md s < 200) : Inv (S_md s (s_md s + 1)) := by
  obtain ⟨a1, a2, a3, a4, a5, a6, a7, a8, a9, a10, a11, a12, a13, a14, a15, a16, a17, a18, a19, a20, a21, a22, a23, a24⟩ := s
  simp only [Inv, s_lost, s_lane, s_w, s_h, s_ct, s_bad, s_cn, s_ca, s_cb, s_cr, s_co, s_nm, s_li, s_lA, s_lB, s_lF, s_lc, s_ln, s_gc, s_gr, s_sn, s_cs, s_cc, s_md, S_lost, S_lane, S_w, S_h, S_ct, S_bad, S_cn, S_ca, S_cb, S_cr, S_co, S_nm, S_li, S_lA, S_lB, S_lF, S_lc, S_ln, S_gc, S_gr, S_sn, S_cs, S_cc, S_md] at hI hm ⊢
  obtain ⟨h1, h2, h3, h4, h5, h6, h7, h8, h9, h10, h11, h12, h13⟩ := hI
  refine ⟨h1, h2, h3, h4, h5, h6, h7, h8, h9, h10, ?_, h12, h13⟩
  · omega

set_option maxHeartbeats 4000000 in
theorem iv_lost {s : St} (hI : Inv s) (k : Nat) : Inv (S_lost s (va_up (s_lost s) k true)) := by
  obtain ⟨a1, a2, a3, a4, a5, a6, a7, a8, a9, a10, a11, a12, a13, a14, a15, a16, a17, a18, a19, a20, a21, a22, a23, a24⟩ := s
  simp only [Inv, s_lost, s_lane, s_w, s_h, s_ct, s_bad, s_cn, s_ca, s_cb, s_cr, s_co, s_nm, s_li, s_lA, s_lB, s_lF, s_lc, s_ln, s_gc, s_gr, s_sn, s_cs, s_cc, s_md, S_lost, S_lane, S_w, S_h, S_ct, S_bad, S_cn, S_ca, S_cb, S_cr, S_co, S_nm, S_li, S_lA, S_lB, S_lF, S_lc, S_ln, S_gc, S_gr, S_sn, S_cs, S_cc, S_md] at hI ⊢
  obtain ⟨h1, h2, h3, h4, h5, h6, h7, h8, h9, h10, h11, h12, h13⟩ := hI
  refine ⟨h1, h2, h3, h4, h5, h6, h7, h8, h9, h10, h11, ?_, h13⟩
  · intro p hp hl
    by_cases e : p = k
    · subst e; rw [va_up_s] at hl; cases hl
    · rw [va_up_n e] at hl; exact h12 p hp hl

set_option maxHeartbeats 4000000 in
theorem iv_gr {s : St} (hI : Inv s) (F : Nat → Int64) (n : Nat) (hn : n ≤ 60) : Inv (S_gc (S_gr s F) n) := by
  obtain ⟨a1, a2, a3, a4, a5, a6, a7, a8, a9, a10, a11, a12, a13, a14, a15, a16, a17, a18, a19, a20, a21, a22, a23, a24⟩ := s
  simp only [Inv, s_lost, s_lane, s_w, s_h, s_ct, s_bad, s_cn, s_ca, s_cb, s_cr, s_co, s_nm, s_li, s_lA, s_lB, s_lF, s_lc, s_ln, s_gc, s_gr, s_sn, s_cs, s_cc, s_md, S_lost, S_lane, S_w, S_h, S_ct, S_bad, S_cn, S_ca, S_cb, S_cr, S_co, S_nm, S_li, S_lA, S_lB, S_lF, S_lc, S_ln, S_gc, S_gr, S_sn, S_cs, S_cc, S_md] at hI ⊢
  obtain ⟨h1, h2, h3, h4, h5, h6, h7, h8, h9, h10, h11, h12, h13⟩ := hI
  refine ⟨h1, h2, h3, h4, h5, h6, h7, h8, h9, ?_, h11, h12, h13⟩
  · exact hn

set_option maxHeartbeats 4000000 in
theorem iv_ct {s : St} (hI : Inv s) (t : Nat) (F : Nat → Int32) (hz : ∀ k, k < 400 → (s_w s t ≤ k % 20 ∨ s_h s t ≤ k / 20) → F k = 0) (hc : ∀ k, k < 400 → iCast (F k) (nI (s_lane s t)) = F k) : Inv (S_ct s (va_up (s_ct s) t F)) := by
  obtain ⟨a1, a2, a3, a4, a5, a6, a7, a8, a9, a10, a11, a12, a13, a14, a15, a16, a17, a18, a19, a20, a21, a22, a23, a24⟩ := s
  simp only [Inv, s_lost, s_lane, s_w, s_h, s_ct, s_bad, s_cn, s_ca, s_cb, s_cr, s_co, s_nm, s_li, s_lA, s_lB, s_lF, s_lc, s_ln, s_gc, s_gr, s_sn, s_cs, s_cc, s_md, S_lost, S_lane, S_w, S_h, S_ct, S_bad, S_cn, S_ca, S_cb, S_cr, S_co, S_nm, S_li, S_lA, S_lB, S_lF, S_lc, S_ln, S_gc, S_gr, S_sn, S_cs, S_cc, S_md] at hI hz hc ⊢
  obtain ⟨h1, h2, h3, h4, h5, h6, h7, h8, h9, h10, h11, h12, h13⟩ := hI
  refine ⟨h1, ?_, h3, h4, h5, h6, h7, h8, h9, h10, h11, h12, ?_⟩
  · intro p hp k hk q
    by_cases e : p = t
    · subst e; rw [va_up_s]; exact hz k hk q
    · rw [va_up_n e]; exact h2 p hp k hk q
  · intro p hp k hk
    by_cases e : p = t
    · subst e; rw [va_up_s]; exact hc k hk
    · rw [va_up_n e]; exact h13 p hp k hk

set_option maxHeartbeats 4000000 in
theorem iv_plate {s : St} (hI : Inv s) (k l w t : Nat) (hl : l ≤ 2) (hw : 1 ≤ w ∧ w ≤ 20) (ht : 1 ≤ t ∧ t ≤ 20) : Inv (S_ct (S_h (S_w (S_lane (S_lost s (va_up (s_lost s) k false)) (va_up (s_lane s) k l)) (va_up (s_w s) k w)) (va_up (s_h s) k t)) (va_up (s_ct s) k (fz (s_ct s k) 400))) := by
  obtain ⟨a1, a2, a3, a4, a5, a6, a7, a8, a9, a10, a11, a12, a13, a14, a15, a16, a17, a18, a19, a20, a21, a22, a23, a24⟩ := s
  simp only [Inv, s_lost, s_lane, s_w, s_h, s_ct, s_bad, s_cn, s_ca, s_cb, s_cr, s_co, s_nm, s_li, s_lA, s_lB, s_lF, s_lc, s_ln, s_gc, s_gr, s_sn, s_cs, s_cc, s_md, S_lost, S_lane, S_w, S_h, S_ct, S_bad, S_cn, S_ca, S_cb, S_cr, S_co, S_nm, S_li, S_lA, S_lB, S_lF, S_lc, S_ln, S_gc, S_gr, S_sn, S_cs, S_cc, S_md] at hI ⊢
  obtain ⟨h1, h2, h3, h4, h5, h6, h7, h8, h9, h10, h11, h12, h13⟩ := hI
  refine ⟨?_, ?_, h3, h4, h5, h6, h7, h8, h9, h10, h11, ?_, ?_⟩
  · intro p hp
    by_cases e : p = k
    · subst e; rw [va_up_s, va_up_s, va_up_s]; omega
    · rw [va_up_n e, va_up_n e, va_up_n e]; exact h1 p hp
  · intro p hp j hj q
    by_cases e : p = k
    · subst e; rw [va_up_s]; unfold fz; rw [if_pos hj]
    · rw [va_up_n e]; rw [va_up_n e, va_up_n e] at q; exact h2 p hp j hj q
  · intro p hp q
    by_cases e : p = k
    · subst e; rw [va_up_s, va_up_s]; omega
    · rw [va_up_n e, va_up_n e]; rw [va_up_n e] at q; exact h12 p hp q
  · intro p hp j hj
    by_cases e : p = k
    · subst e; rw [va_up_s, va_up_s]; unfold fz; rw [if_pos hj]; exact iCast_0 _
    · rw [va_up_n e, va_up_n e]; exact h13 p hp j hj

set_option maxHeartbeats 4000000 in
theorem iv_line {s : St} (hI : Inv s) (u : Int32) (hu : 1 ≤ u.toInt ∧ u.toInt ≤ 1000000) (hl : s_lc s < 12) : Inv (S_lc (S_ln s (upd (s_ln s) (s_lc s) u)) (s_lc s + 1)) := by
  obtain ⟨a1, a2, a3, a4, a5, a6, a7, a8, a9, a10, a11, a12, a13, a14, a15, a16, a17, a18, a19, a20, a21, a22, a23, a24⟩ := s
  simp only [Inv, s_lost, s_lane, s_w, s_h, s_ct, s_bad, s_cn, s_ca, s_cb, s_cr, s_co, s_nm, s_li, s_lA, s_lB, s_lF, s_lc, s_ln, s_gc, s_gr, s_sn, s_cs, s_cc, s_md, S_lost, S_lane, S_w, S_h, S_ct, S_bad, S_cn, S_ca, S_cb, S_cr, S_co, S_nm, S_li, S_lA, S_lB, S_lF, S_lc, S_ln, S_gc, S_gr, S_sn, S_cs, S_cc, S_md] at hI hl ⊢
  obtain ⟨h1, h2, h3, h4, h5, h6, h7, h8, h9, h10, h11, h12, h13⟩ := hI
  refine ⟨h1, h2, h3, h4, h5, h6, h7, ?_, ?_, h10, h11, h12, h13⟩
  · omega
  · intro i hi
    unfold upd
    split
    · exact hu
    · exact h9 i (by omega)

set_option maxHeartbeats 4000000 in
theorem iv_comb {s : St} (hI : Inv s) (a b r : Nat) (ha : a ≤ 304) (hb : b ≤ 304) (hr : r ≤ 3) (hn : s_cn s < 4) : Inv (S_cn (S_cr (S_cb (S_ca s (va_up (s_ca s) (s_cn s) a)) (va_up (s_cb s) (s_cn s) b)) (va_up (s_cr s) (s_cn s) r)) (s_cn s + 1)) := by
  obtain ⟨a1, a2, a3, a4, a5, a6, a7, a8, a9, a10, a11, a12, a13, a14, a15, a16, a17, a18, a19, a20, a21, a22, a23, a24⟩ := s
  simp only [Inv, s_lost, s_lane, s_w, s_h, s_ct, s_bad, s_cn, s_ca, s_cb, s_cr, s_co, s_nm, s_li, s_lA, s_lB, s_lF, s_lc, s_ln, s_gc, s_gr, s_sn, s_cs, s_cc, s_md, S_lost, S_lane, S_w, S_h, S_ct, S_bad, S_cn, S_ca, S_cb, S_cr, S_co, S_nm, S_li, S_lA, S_lB, S_lF, S_lc, S_ln, S_gc, S_gr, S_sn, S_cs, S_cc, S_md] at hI hn ⊢
  obtain ⟨h1, h2, h3, h4, h5, h6, h7, h8, h9, h10, h11, h12, h13⟩ := hI
  refine ⟨h1, h2, ?_, ?_, h5, h6, h7, h8, h9, h10, h11, h12, h13⟩
  · omega
  · intro c hc
    have q := h4 c hc
    by_cases e : c = a7
    · rw [e, va_up_s, va_up_s, va_up_s]; rw [e] at q; exact ⟨ha, hb, hr, q.2.2.2⟩
    · rw [va_up_n e, va_up_n e, va_up_n e]; exact q

set_option maxHeartbeats 4000000 in
theorem iv_a {s : St} (hI : Inv s) (k v : Nat) (hv : v ≤ 304) : Inv (S_ca s (va_up (s_ca s) k v)) := by
  obtain ⟨a1, a2, a3, a4, a5, a6, a7, a8, a9, a10, a11, a12, a13, a14, a15, a16, a17, a18, a19, a20, a21, a22, a23, a24⟩ := s
  simp only [Inv, s_lost, s_lane, s_w, s_h, s_ct, s_bad, s_cn, s_ca, s_cb, s_cr, s_co, s_nm, s_li, s_lA, s_lB, s_lF, s_lc, s_ln, s_gc, s_gr, s_sn, s_cs, s_cc, s_md, S_lost, S_lane, S_w, S_h, S_ct, S_bad, S_cn, S_ca, S_cb, S_cr, S_co, S_nm, S_li, S_lA, S_lB, S_lF, S_lc, S_ln, S_gc, S_gr, S_sn, S_cs, S_cc, S_md] at hI ⊢
  obtain ⟨h1, h2, h3, h4, h5, h6, h7, h8, h9, h10, h11, h12, h13⟩ := hI
  refine ⟨h1, h2, h3, ?_, h5, h6, h7, h8, h9, h10, h11, h12, h13⟩
  · intro c hc
    have q := h4 c hc
    by_cases e : c = k
    · subst e; rw [va_up_s]; exact ⟨hv, q.2⟩
    · rw [va_up_n e]; exact q

set_option maxHeartbeats 4000000 in
theorem iv_b {s : St} (hI : Inv s) (k v : Nat) (hv : v ≤ 304) : Inv (S_cb s (va_up (s_cb s) k v)) := by
  obtain ⟨a1, a2, a3, a4, a5, a6, a7, a8, a9, a10, a11, a12, a13, a14, a15, a16, a17, a18, a19, a20, a21, a22, a23, a24⟩ := s
  simp only [Inv, s_lost, s_lane, s_w, s_h, s_ct, s_bad, s_cn, s_ca, s_cb, s_cr, s_co, s_nm, s_li, s_lA, s_lB, s_lF, s_lc, s_ln, s_gc, s_gr, s_sn, s_cs, s_cc, s_md, S_lost, S_lane, S_w, S_h, S_ct, S_bad, S_cn, S_ca, S_cb, S_cr, S_co, S_nm, S_li, S_lA, S_lB, S_lF, S_lc, S_ln, S_gc, S_gr, S_sn, S_cs, S_cc, S_md] at hI ⊢
  obtain ⟨h1, h2, h3, h4, h5, h6, h7, h8, h9, h10, h11, h12, h13⟩ := hI
  refine ⟨h1, h2, h3, ?_, h5, h6, h7, h8, h9, h10, h11, h12, h13⟩
  · intro c hc
    have q := h4 c hc
    by_cases e : c = k
    · subst e; rw [va_up_s]; exact ⟨q.1, hv, q.2.2⟩
    · rw [va_up_n e]; exact q

set_option maxHeartbeats 4000000 in
theorem iv_law {s : St} (hI : Inv s) (k : Nat) (a b f : Int32) (ha : -1000000 ≤ a.toInt ∧ a.toInt ≤ 1000000) (hb : 1 ≤ b.toInt ∧ b.toInt ≤ 100000) : Inv (S_lF (S_lB (S_lA (S_li s (va_up (s_li s) k true)) (va_up (s_lA s) k a)) (va_up (s_lB s) k b)) (va_up (s_lF s) k f)) := by
  obtain ⟨a1, a2, a3, a4, a5, a6, a7, a8, a9, a10, a11, a12, a13, a14, a15, a16, a17, a18, a19, a20, a21, a22, a23, a24⟩ := s
  simp only [Inv, s_lost, s_lane, s_w, s_h, s_ct, s_bad, s_cn, s_ca, s_cb, s_cr, s_co, s_nm, s_li, s_lA, s_lB, s_lF, s_lc, s_ln, s_gc, s_gr, s_sn, s_cs, s_cc, s_md, S_lost, S_lane, S_w, S_h, S_ct, S_bad, S_cn, S_ca, S_cb, S_cr, S_co, S_nm, S_li, S_lA, S_lB, S_lF, S_lc, S_ln, S_gc, S_gr, S_sn, S_cs, S_cc, S_md] at hI ⊢
  obtain ⟨h1, h2, h3, h4, h5, h6, h7, h8, h9, h10, h11, h12, h13⟩ := hI
  refine ⟨h1, h2, h3, h4, h5, ?_, ?_, h8, h9, h10, h11, h12, h13⟩
  · intro c hc hl
    by_cases e : c = k
    · subst e; rw [va_up_s, va_up_s]; exact ⟨ha.1, ha.2, hb.1, hb.2⟩
    · rw [va_up_n e] at hl; rw [va_up_n e, va_up_n e]; exact h6 c hc hl
  · intro c hc hl
    by_cases e : c = k
    · subst e; rw [va_up_s] at hl; cases hl
    · rw [va_up_n e] at hl; rw [va_up_n e, va_up_n e, va_up_n e]; exact h7 c hc hl

set_option maxHeartbeats 4000000 in
theorem j_lose {s : St} (hI : Inv s) (p : Int32) : Inv (f_lose s p).2 := by
  unfold f_lose g_lose
  split
  · split
    · exact iv_caus hI 1
    · exact iv_lost hI _
  · exact hI

set_option maxHeartbeats 4000000 in
theorem j_look {s : St} (hI : Inv s) (p x y : Int32) : Inv (f_look s p x y).2 := by
  unfold f_look g_look
  split
  · split
    · exact iv_caus hI 1
    · split
      · exact iv_sn hI _
      · exact iv_caus hI 2
  · exact hI

set_option maxHeartbeats 4000000 in
theorem j_put {s : St} (hI : Inv s) (p lane x y v : Int32) : Inv (f_put s p lane x y v).2 := by
  unfold f_put g_put
  split
  · rename_i hp
    split
    · split
      · exact iv_caus hI 1
      · split
        · split
          · rename_i hx
            have hd := hI.1 p.toInt.toNat (by omega)
            refine iv_ct hI _ _ (fun k hk q => ?_) (fun k hk => ?_)
            · unfold upd
              rw [if_neg (by omega)]
              exact hI.2.1 _ (by omega) k hk q
            · unfold upd
              split
              · exact ic_id _ _
              · exact hI.2.2.2.2.2.2.2.2.2.2.2.2 _ (by omega) k hk
          · exact iv_caus hI 2
        · exact iv_caus hI 4
    · exact hI
  · exact hI

set_option maxHeartbeats 4000000 in
theorem j_plate {s : St} (hI : Inv s) (p lane w t : Int32) : Inv (f_plate s p lane w t).2 := by
  unfold f_plate g_plate
  split
  · split
    · split
      · exact iv_caus hI 3
      · exact iv_plate hI _ _ _ _ (by omega) (by omega) (by omega)
    · exact hI
  · exact hI

set_option maxHeartbeats 4000000 in
theorem j_copy {s : St} (hI : Inv s) (p q : Int32) : Inv (f_copy s p q).2 := by
  unfold f_copy g_copy
  split
  · rename_i hp
    split
    · exact iv_caus hI 1
    · split
      · rename_i hl
        split
        · rename_i hx
          refine iv_ct hI _ _ (fun k hk r => ?_) (fun k hk => ?_)
          · rw [if_pos hk]
            exact hI.2.1 _ (by omega) k hk (by rw [hx.1, hx.2]; exact r)
          · rw [if_pos hk, ← hl]
            exact hI.2.2.2.2.2.2.2.2.2.2.2.2 _ (by omega) k hk
        · exact iv_caus hI 5
      · exact iv_caus hI 4
  · exact hI

set_option maxHeartbeats 4000000 in
theorem j_less {s : St} (hI : Inv s) (p q : Int32) : Inv (f_less s p q).2 := by
  unfold f_less g_less
  split
  · rename_i hp
    split
    · exact iv_caus hI 1
    · split
      · rename_i hx
        refine iv_ct hI _ _ (fun k hk r => ?_) (fun k hk => ?_)
        · rw [if_pos hk, hI.2.1 _ (by omega) k hk r, hI.2.1 p.toInt.toNat (by omega) k hk (by rw [hx.1, hx.2]; exact r)]
          exact iCast_0 _
        · rw [if_pos hk]
          exact ic_id _ _
      · exact iv_caus hI 5
  · exact hI

set_option maxHeartbeats 4000000 in
theorem j_bad {s : St} (hI : Inv s) (x y : Int32) (b : Bool) : Inv (f_bad s x y b).2 := by
  unfold f_bad
  split
  · exact iv_bad hI _
  · exact hI

set_option maxHeartbeats 4000000 in
theorem j_clear {s : St} (hI : Inv s)  : Inv (f_clear s).2 := by
  unfold f_clear
  exact iv_lc0 hI

set_option maxHeartbeats 4000000 in
theorem j_line {s : St} (hI : Inv s) (u : Int32) : Inv (f_line s u).2 := by
  unfold f_line
  split
  · split
    · exact iv_line hI u (by omega) (by omega)
    · exact hI
  · exact hI

set_option maxHeartbeats 4000000 in
theorem j_comb {s : St} (hI : Inv s) (a b r : Int32) : Inv (f_comb s a b r).2 := by
  unfold f_comb
  split
  · split
    · exact iv_comb hI _ _ _ (by omega) (by omega) (by omega) (by omega)
    · exact hI
  · exact hI

set_option maxHeartbeats 4000000 in
theorem j_law {s : St} (hI : Inv s) (c a b : Int32) : Inv (f_law s c a b).2 := by
  unfold f_law g_law
  split
  · split
    · split
      · exact hI
      · exact iv_law hI _ _ _ _ (by omega) (by omega)
    · exact hI
  · exact hI

set_option maxHeartbeats 4000000 in
theorem j_band {s : St} (hI : Inv s) (c p x d : Int32) : Inv (f_band s c p x d).2 := by
  unfold f_band g_band
  split
  · split
    · split
      · exact iv_caus hI 1
      · split
        · exact iv_sn hI _
        · exact iv_caus hI 2
    · exact hI
  · exact hI

theorem iv_stA {s : St} (hI : Inv s) (c : Nat) (l : Int) (hl : l = -1 ∨ (0 ≤ l ∧ l ≤ 304)) : Inv (stA s c l) := by
  unfold stA
  split
  · exact hI
  · exact iv_a hI _ _ (by omega)
theorem iv_stB {s : St} (hI : Inv s) (c : Nat) (l : Int) (hl : l = -1 ∨ (0 ≤ l ∧ l ≤ 304)) : Inv (stB s c l) := by
  unfold stB
  split
  · exact hI
  · exact iv_b hI _ _ (by omega)

set_option maxHeartbeats 4000000 in
theorem j_trace {s : St} (hI : Inv s) (c p : Int32) : Inv (f_trace s c p).2 := by
  unfold f_trace g_trace
  split
  · rename_i hp
    split
    · exact iv_caus hI 1
    · rename_i hl
      have hcn := hI.2.2.1
      have hw1 := (hI.2.2.2.2.2.2.2.2.2.2.2.1 p.toInt.toNat (by omega) (by simpa using hl)).1
      exact iv_stB (iv_stA hI _ _ (midL_in hI (by omega) (by omega) (by omega))) _ _ (midL_in hI (by omega) (by omega) (by omega))
  · exact hI

set_option maxHeartbeats 4000000 in
theorem j_draw {s : St} (hI : Inv s) (c p f k : Int32) : Inv (f_draw s c p f k).2 := by
  unfold f_draw g_draw
  split
  · rename_i hp
    split
    · split
      · exact iv_caus hI 1
      · split
        · rename_i hx
          have hcn := hI.2.2.1
          dsimp only
          rw [← sX_E]
          exact hI.sX (by omega) (by omega) (by omega) (by omega)
        · exact iv_caus hI 5
    · exact hI
  · exact hI

theorem iv_mS {s : St} (hI : Inv s) (k : Nat) (B : BL) (m : Nat) (hB : okB B m) : Inv (mS s k B) := by
  unfold mS
  split
  · exact hI
  · rename_i h
    rcases hB with hB | hB
    · rw [hB] at h; exact absurd rfl h
    · exact iv_law hI _ _ _ _ (by rw [iI_toInt (by omega) (by omega)]; omega) (by rw [iI_toInt (by omega) (by omega)]; omega)

set_option maxHeartbeats 4000000 in
theorem j_match {s : St} (hI : Inv s) (c : Int32) (t : Int64) (e : Int32) : Inv (f_match s c t e).2 := by
  unfold f_match g_match
  split
  · split
    · split
      · exact hI
      · exact iv_mS (iv_md hI (by omega)) _ _ _ okB_i
    · exact hI
  · exact hI

set_option maxHeartbeats 4000000 in
theorem j_join {s : St} (hI : Inv s) (g d n : Int32) : Inv (f_join s g d n).2 := by
  unfold f_join
  split
  · split
    · exact hI
    · exact iv_gr hI _ _ (by omega)
  · exact hI
