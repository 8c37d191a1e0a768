/-! THE STATE, in plain words: plates (lost, lane, w, h, counts), bad cells, combs (a, b, r, columns, numbers, law), lines, the grid, seen, cause, causes, matches done. Scratch of the class (zc), of the reference (zm). -/
abbrev St : Type := (Nat → Bool) × (Nat → Nat) × (Nat → Nat) × (Nat → Nat) × (Nat → Nat → Int32) × (Nat → Bool) × (Nat) × (Nat → Nat) × (Nat → Nat) × (Nat → Nat) × (Nat → Nat) × (Nat → Nat → Nat) × (Nat → Bool) × (Nat → Int32) × (Nat → Int32) × (Nat → Int32) × (Nat) × (Nat → Int32) × (Nat) × (Nat → Int64) × (Int32) × (Int32) × (Nat → Int32) × (Nat)
abbrev s_lost (s : St) : Nat → Bool := s.1
abbrev s_lane (s : St) : Nat → Nat := s.2.1
abbrev s_w (s : St) : Nat → Nat := s.2.2.1
abbrev s_h (s : St) : Nat → Nat := s.2.2.2.1
abbrev s_ct (s : St) : Nat → Nat → Int32 := s.2.2.2.2.1
abbrev s_bad (s : St) : Nat → Bool := s.2.2.2.2.2.1
abbrev s_cn (s : St) : Nat := s.2.2.2.2.2.2.1
abbrev s_ca (s : St) : Nat → Nat := s.2.2.2.2.2.2.2.1
abbrev s_cb (s : St) : Nat → Nat := s.2.2.2.2.2.2.2.2.1
abbrev s_cr (s : St) : Nat → Nat := s.2.2.2.2.2.2.2.2.2.1
abbrev s_co (s : St) : Nat → Nat := s.2.2.2.2.2.2.2.2.2.2.1
abbrev s_nm (s : St) : Nat → Nat → Nat := s.2.2.2.2.2.2.2.2.2.2.2.1
abbrev s_li (s : St) : Nat → Bool := s.2.2.2.2.2.2.2.2.2.2.2.2.1
abbrev s_lA (s : St) : Nat → Int32 := s.2.2.2.2.2.2.2.2.2.2.2.2.2.1
abbrev s_lB (s : St) : Nat → Int32 := s.2.2.2.2.2.2.2.2.2.2.2.2.2.2.1
abbrev s_lF (s : St) : Nat → Int32 := s.2.2.2.2.2.2.2.2.2.2.2.2.2.2.2.1
abbrev s_lc (s : St) : Nat := s.2.2.2.2.2.2.2.2.2.2.2.2.2.2.2.2.1
abbrev s_ln (s : St) : Nat → Int32 := s.2.2.2.2.2.2.2.2.2.2.2.2.2.2.2.2.2.1
abbrev s_gc (s : St) : Nat := s.2.2.2.2.2.2.2.2.2.2.2.2.2.2.2.2.2.2.1
abbrev s_gr (s : St) : Nat → Int64 := s.2.2.2.2.2.2.2.2.2.2.2.2.2.2.2.2.2.2.2.1
abbrev s_sn (s : St) : Int32 := s.2.2.2.2.2.2.2.2.2.2.2.2.2.2.2.2.2.2.2.2.1
abbrev s_cs (s : St) : Int32 := s.2.2.2.2.2.2.2.2.2.2.2.2.2.2.2.2.2.2.2.2.2.1
abbrev s_cc (s : St) : Nat → Int32 := s.2.2.2.2.2.2.2.2.2.2.2.2.2.2.2.2.2.2.2.2.2.2.1
abbrev s_md (s : St) : Nat := s.2.2.2.2.2.2.2.2.2.2.2.2.2.2.2.2.2.2.2.2.2.2.2
abbrev S_lost (s : St) (v : Nat → Bool) : St := (v, s.2.1, s.2.2.1, s.2.2.2.1, s.2.2.2.2.1, s.2.2.2.2.2.1, s.2.2.2.2.2.2.1, s.2.2.2.2.2.2.2.1, s.2.2.2.2.2.2.2.2.1, s.2.2.2.2.2.2.2.2.2.1, s.2.2.2.2.2.2.2.2.2.2.1, s.2.2.2.2.2.2.2.2.2.2.2.1, s.2.2.2.2.2.2.2.2.2.2.2.2.1, s.2.2.2.2.2.2.2.2.2.2.2.2.2.1, s.2.2.2.2.2.2.2.2.2.2.2.2.2.2.1, s.2.2.2.2.2.2.2.2.2.2.2.2.2.2.2.1, s.2.2.2.2.2.2.2.2.2.2.2.2.2.2.2.2.1, s.2.2.2.2.2.2.2.2.2.2.2.2.2.2.2.2.2.1, s.2.2.2.2.2.2.2.2.2.2.2.2.2.2.2.2.2.2.1, s.2.2.2.2.2.2.2.2.2.2.2.2.2.2.2.2.2.2.2.1, s.2.2.2.2.2.2.2.2.2.2.2.2.2.2.2.2.2.2.2.2.1, s.2.2.2.2.2.2.2.2.2.2.2.2.2.2.2.2.2.2.2.2.2.1, s.2.2.2.2.2.2.2.2.2.2.2.2.2.2.2.2.2.2.2.2.2.2.1, s.2.2.2.2.2.2.2.2.2.2.2.2.2.2.2.2.2.2.2.2.2.2.2)
abbrev S_lane (s : St) (v : Nat → Nat) : St := (s.1, v, s.2.2.1, s.2.2.2.1, s.2.2.2.2.1, s.2.2.2.2.2.1, s.2.2.2.2.2.2.1, s.2.2.2.2.2.2.2.1, s.2.2.2.2.2.2.2.2.1, s.2.2.2.2.2.2.2.2.2.1, s.2.2.2.2.2.2.2.2.2.2.1, s.2.2.2.2.2.2.2.2.2.2.2.1, s.2.2.2.2.2.2.2.2.2.2.2.2.1, s.2.2.2.2.2.2.2.2.2.2.2.2.2.1, s.2.2.2.2.2.2.2.2.2.2.2.2.2.2.1, s.2.2.2.2.2.2.2.2.2.2.2.2.2.2.2.1, s.2.2.2.2.2.2.2.2.2.2.2.2.2.2.2.2.1, s.2.2.2.2.2.2.2.2.2.2.2.2.2.2.2.2.2.1, s.2.2.2.2.2.2.2.2.2.2.2.2.2.2.2.2.2.2.1, s.2.2.2.2.2.2.2.2.2.2.2.2.2.2.2.2.2.2.2.1, s.2.2.2.2.2.2.2.2.2.2.2.2.2.2.2.2.2.2.2.2.1, s.2.2.2.2.2.2.2.2.2.2.2.2.2.2.2.2.2.2.2.2.2.1, s.2.2.2.2.2.2.2.2.2.2.2.2.2.2.2.2.2.2.2.2.2.2.1, s.2.2.2.2.2.2.2.2.2.2.2.2.2.2.2.2.2.2.2.2.2.2.2)
abbrev S_w (s : St) (v : Nat → Nat) : St := (s.1, s.2.1, v, s.2.2.2.1, s.2.2.2.2.1, s.2.2.2.2.2.1, s.2.2.2.2.2.2.1, s.2.2.2.2.2.2.2.1, s.2.2.2.2.2.2.2.2.1, s.2.2.2.2.2.2.2.2.2.1, s.2.2.2.2.2.2.2.2.2.2.1, s.2.2.2.2.2.2.2.2.2.2.2.1, s.2.2.2.2.2.2.2.2.2.2.2.2.1, s.2.2.2.2.2.2.2.2.2.2.2.2.2.1, s.2.2.2.2.2.2.2.2.2.2.2.2.2.2.1, s.2.2.2.2.2.2.2.2.2.2.2.2.2.2.2.1, s.2.2.2.2.2.2.2.2.2.2.2.2.2.2.2.2.1, s.2.2.2.2.2.2.2.2.2.2.2.2.2.2.2.2.2.1, s.2.2.2.2.2.2.2.2.2.2.2.2.2.2.2.2.2.2.1, s.2.2.2.2.2.2.2.2.2.2.2.2.2.2.2.2.2.2.2.1, s.2.2.2.2.2.2.2.2.2.2.2.2.2.2.2.2.2.2.2.2.1, s.2.2.2.2.2.2.2.2.2.2.2.2.2.2.2.2.2.2.2.2.2.1, s.2.2.2.2.2.2.2.2.2.2.2.2.2.2.2.2.2.2.2.2.2.2.1, s.2.2.2.2.2.2.2.2.2.2.2.2.2.2.2.2.2.2.2.2.2.2.2)
abbrev S_h (s : St) (v : Nat → Nat) : St := (s.1, s.2.1, s.2.2.1, v, s.2.2.2.2.1, s.2.2.2.2.2.1, s.2.2.2.2.2.2.1, s.2.2.2.2.2.2.2.1, s.2.2.2.2.2.2.2.2.1, s.2.2.2.2.2.2.2.2.2.1, s.2.2.2.2.2.2.2.2.2.2.1, s.2.2.2.2.2.2.2.2.2.2.2.1, s.2.2.2.2.2.2.2.2.2.2.2.2.1, s.2.2.2.2.2.2.2.2.2.2.2.2.2.1, s.2.2.2.2.2.2.2.2.2.2.2.2.2.2.1, s.2.2.2.2.2.2.2.2.2.2.2.2.2.2.2.1, s.2.2.2.2.2.2.2.2.2.2.2.2.2.2.2.2.1, s.2.2.2.2.2.2.2.2.2.2.2.2.2.2.2.2.2.1, s.2.2.2.2.2.2.2.2.2.2.2.2.2.2.2.2.2.2.1, s.2.2.2.2.2.2.2.2.2.2.2.2.2.2.2.2.2.2.2.1, s.2.2.2.2.2.2.2.2.2.2.2.2.2.2.2.2.2.2.2.2.1, s.2.2.2.2.2.2.2.2.2.2.2.2.2.2.2.2.2.2.2.2.2.1, s.2.2.2.2.2.2.2.2.2.2.2.2.2.2.2.2.2.2.2.2.2.2.1, s.2.2.2.2.2.2.2.2.2.2.2.2.2.2.2.2.2.2.2.2.2.2.2)
abbrev S_ct (s : St) (v : Nat → Nat → Int32) : St := (s.1, s.2.1, s.2.2.1, s.2.2.2.1, v, s.2.2.2.2.2.1, s.2.2.2.2.2.2.1, s.2.2.2.2.2.2.2.1, s.2.2.2.2.2.2.2.2.1, s.2.2.2.2.2.2.2.2.2.1, s.2.2.2.2.2.2.2.2.2.2.1, s.2.2.2.2.2.2.2.2.2.2.2.1, s.2.2.2.2.2.2.2.2.2.2.2.2.1, s.2.2.2.2.2.2.2.2.2.2.2.2.2.1, s.2.2.2.2.2.2.2.2.2.2.2.2.2.2.1, s.2.2.2.2.2.2.2.2.2.2.2.2.2.2.2.1, s.2.2.2.2.2.2.2.2.2.2.2.2.2.2.2.2.1, s.2.2.2.2.2.2.2.2.2.2.2.2.2.2.2.2.2.1, s.2.2.2.2.2.2.2.2.2.2.2.2.2.2.2.2.2.2.1, s.2.2.2.2.2.2.2.2.2.2.2.2.2.2.2.2.2.2.2.1, s.2.2.2.2.2.2.2.2.2.2.2.2.2.2.2.2.2.2.2.2.1, s.2.2.2.2.2.2.2.2.2.2.2.2.2.2.2.2.2.2.2.2.2.1, s.2.2.2.2.2.2.2.2.2.2.2.2.2.2.2.2.2.2.2.2.2.2.1, s.2.2.2.2.2.2.2.2.2.2.2.2.2.2.2.2.2.2.2.2.2.2.2)
abbrev S_bad (s : St) (v : Nat → Bool) : St := (s.1, s.2.1, s.2.2.1, s.2.2.2.1, s.2.2.2.2.1, v, s.2.2.2.2.2.2.1, s.2.2.2.2.2.2.2.1, s.2.2.2.2.2.2.2.2.1, s.2.2.2.2.2.2.2.2.2.1, s.2.2.2.2.2.2.2.2.2.2.1, s.2.2.2.2.2.2.2.2.2.2.2.1, s.2.2.2.2.2.2.2.2.2.2.2.2.1, s.2.2.2.2.2.2.2.2.2.2.2.2.2.1, s.2.2.2.2.2.2.2.2.2.2.2.2.2.2.1, s.2.2.2.2.2.2.2.2.2.2.2.2.2.2.2.1, s.2.2.2.2.2.2.2.2.2.2.2.2.2.2.2.2.1, s.2.2.2.2.2.2.2.2.2.2.2.2.2.2.2.2.2.1, s.2.2.2.2.2.2.2.2.2.2.2.2.2.2.2.2.2.2.1, s.2.2.2.2.2.2.2.2.2.2.2.2.2.2.2.2.2.2.2.1, s.2.2.2.2.2.2.2.2.2.2.2.2.2.2.2.2.2.2.2.2.1, s.2.2.2.2.2.2.2.2.2.2.2.2.2.2.2.2.2.2.2.2.2.1, s.2.2.2.2.2.2.2.2.2.2.2.2.2.2.2.2.2.2.2.2.2.2.1, s.2.2.2.2.2.2.2.2.2.2.2.2.2.2.2.2.2.2.2.2.2.2.2)
abbrev S_cn (s : St) (v : Nat) : St := (s.1, s.2.1, s.2.2.1, s.2.2.2.1, s.2.2.2.2.1, s.2.2.2.2.2.1, v, s.2.2.2.2.2.2.2.1, s.2.2.2.2.2.2.2.2.1, s.2.2.2.2.2.2.2.2.2.1, s.2.2.2.2.2.2.2.2.2.2.1, s.2.2.2.2.2.2.2.2.2.2.2.1, s.2.2.2.2.2.2.2.2.2.2.2.2.1, s.2.2.2.2.2.2.2.2.2.2.2.2.2.1, s.2.2.2.2.2.2.2.2.2.2.2.2.2.2.1, s.2.2.2.2.2.2.2.2.2.2.2.2.2.2.2.1, s.2.2.2.2.2.2.2.2.2.2.2.2.2.2.2.2.1, s.2.2.2.2.2.2.2.2.2.2.2.2.2.2.2.2.2.1, s.2.2.2.2.2.2.2.2.2.2.2.2.2.2.2.2.2.2.1, s.2.2.2.2.2.2.2.2.2.2.2.2.2.2.2.2.2.2.2.1, s.2.2.2.2.2.2.2.2.2.2.2.2.2.2.2.2.2.2.2.2.1, s.2.2.2.2.2.2.2.2.2.2.2.2.2.2.2.2.2.2.2.2.2.1, s.2.2.2.2.2.2.2.2.2.2.2.2.2.2.2.2.2.2.2.2.2.2.1, s.2.2.2.2.2.2.2.2.2.2.2.2.2.2.2.2.2.2.2.2.2.2.2)
abbrev S_ca (s : St) (v : Nat → Nat) : St := (s.1, s.2.1, s.2.2.1, s.2.2.2.1, s.2.2.2.2.1, s.2.2.2.2.2.1, s.2.2.2.2.2.2.1, v, s.2.2.2.2.2.2.2.2.1, s.2.2.2.2.2.2.2.2.2.1, s.2.2.2.2.2.2.2.2.2.2.1, s.2.2.2.2.2.2.2.2.2.2.2.1, s.2.2.2.2.2.2.2.2.2.2.2.2.1, s.2.2.2.2.2.2.2.2.2.2.2.2.2.1, s.2.2.2.2.2.2.2.2.2.2.2.2.2.2.1, s.2.2.2.2.2.2.2.2.2.2.2.2.2.2.2.1, s.2.2.2.2.2.2.2.2.2.2.2.2.2.2.2.2.1, s.2.2.2.2.2.2.2.2.2.2.2.2.2.2.2.2.2.1, s.2.2.2.2.2.2.2.2.2.2.2.2.2.2.2.2.2.2.1, s.2.2.2.2.2.2.2.2.2.2.2.2.2.2.2.2.2.2.2.1, s.2.2.2.2.2.2.2.2.2.2.2.2.2.2.2.2.2.2.2.2.1, s.2.2.2.2.2.2.2.2.2.2.2.2.2.2.2.2.2.2.2.2.2.1, s.2.2.2.2.2.2.2.2.2.2.2.2.2.2.2.2.2.2.2.2.2.2.1, s.2.2.2.2.2.2.2.2.2.2.2.2.2.2.2.2.2.2.2.2.2.2.2)
abbrev S_cb (s : St) (v : Nat → Nat) : St := (s.1, s.2.1, s.2.2.1, s.2.2.2.1, s.2.2.2.2.1, s.2.2.2.2.2.1, s.2.2.2.2.2.2.1, s.2.2.2.2.2.2.2.1, v, s.2.2.2.2.2.2.2.2.2.1, s.2.2.2.2.2.2.2.2.2.2.1, s.2.2.2.2.2.2.2.2.2.2.2.1, s.2.2.2.2.2.2.2.2.2.2.2.2.1, s.2.2.2.2.2.2.2.2.2.2.2.2.2.1, s.2.2.2.2.2.2.2.2.2.2.2.2.2.2.1, s.2.2.2.2.2.2.2.2.2.2.2.2.2.2.2.1, s.2.2.2.2.2.2.2.2.2.2.2.2.2.2.2.2.1, s.2.2.2.2.2.2.2.2.2.2.2.2.2.2.2.2.2.1, s.2.2.2.2.2.2.2.2.2.2.2.2.2.2.2.2.2.2.1, s.2.2.2.2.2.2.2.2.2.2.2.2.2.2.2.2.2.2.2.1, s.2.2.2.2.2.2.2.2.2.2.2.2.2.2.2.2.2.2.2.2.1, s.2.2.2.2.2.2.2.2.2.2.2.2.2.2.2.2.2.2.2.2.2.1, s.2.2.2.2.2.2.2.2.2.2.2.2.2.2.2.2.2.2.2.2.2.2.1, s.2.2.2.2.2.2.2.2.2.2.2.2.2.2.2.2.2.2.2.2.2.2.2)
abbrev S_cr (s : St) (v : Nat → Nat) : St := (s.1, s.2.1, s.2.2.1, s.2.2.2.1, s.2.2.2.2.1, s.2.2.2.2.2.1, s.2.2.2.2.2.2.1, s.2.2.2.2.2.2.2.1, s.2.2.2.2.2.2.2.2.1, v, s.2.2.2.2.2.2.2.2.2.2.1, s.2.2.2.2.2.2.2.2.2.2.2.1, s.2.2.2.2.2.2.2.2.2.2.2.2.1, s.2.2.2.2.2.2.2.2.2.2.2.2.2.1, s.2.2.2.2.2.2.2.2.2.2.2.2.2.2.1, s.2.2.2.2.2.2.2.2.2.2.2.2.2.2.2.1, s.2.2.2.2.2.2.2.2.2.2.2.2.2.2.2.2.1, s.2.2.2.2.2.2.2.2.2.2.2.2.2.2.2.2.2.1, s.2.2.2.2.2.2.2.2.2.2.2.2.2.2.2.2.2.2.1, s.2.2.2.2.2.2.2.2.2.2.2.2.2.2.2.2.2.2.2.1, s.2.2.2.2.2.2.2.2.2.2.2.2.2.2.2.2.2.2.2.2.1, s.2.2.2.2.2.2.2.2.2.2.2.2.2.2.2.2.2.2.2.2.2.1, s.2.2.2.2.2.2.2.2.2.2.2.2.2.2.2.2.2.2.2.2.2.2.1, s.2.2.2.2.2.2.2.2.2.2.2.2.2.2.2.2.2.2.2.2.2.2.2)
abbrev S_co (s : St) (v : Nat → Nat) : St := (s.1, s.2.1, s.2.2.1, s.2.2.2.1, s.2.2.2.2.1, s.2.2.2.2.2.1, s.2.2.2.2.2.2.1, s.2.2.2.2.2.2.2.1, s.2.2.2.2.2.2.2.2.1, s.2.2.2.2.2.2.2.2.2.1, v, s.2.2.2.2.2.2.2.2.2.2.2.1, s.2.2.2.2.2.2.2.2.2.2.2.2.1, s.2.2.2.2.2.2.2.2.2.2.2.2.2.1, s.2.2.2.2.2.2.2.2.2.2.2.2.2.2.1, s.2.2.2.2.2.2.2.2.2.2.2.2.2.2.2.1, s.2.2.2.2.2.2.2.2.2.2.2.2.2.2.2.2.1, s.2.2.2.2.2.2.2.2.2.2.2.2.2.2.2.2.2.1, s.2.2.2.2.2.2.2.2.2.2.2.2.2.2.2.2.2.2.1, s.2.2.2.2.2.2.2.2.2.2.2.2.2.2.2.2.2.2.2.1, s.2.2.2.2.2.2.2.2.2.2.2.2.2.2.2.2.2.2.2.2.1, s.2.2.2.2.2.2.2.2.2.2.2.2.2.2.2.2.2.2.2.2.2.1, s.2.2.2.2.2.2.2.2.2.2.2.2.2.2.2.2.2.2.2.2.2.2.1, s.2.2.2.2.2.2.2.2.2.2.2.2.2.2.2.2.2.2.2.2.2.2.2)
abbrev S_nm (s : St) (v : Nat → Nat → Nat) : St := (s.1, s.2.1, s.2.2.1, s.2.2.2.1, s.2.2.2.2.1, s.2.2.2.2.2.1, s.2.2.2.2.2.2.1, s.2.2.2.2.2.2.2.1, s.2.2.2.2.2.2.2.2.1, s.2.2.2.2.2.2.2.2.2.1, s.2.2.2.2.2.2.2.2.2.2.1, v, s.2.2.2.2.2.2.2.2.2.2.2.2.1, s.2.2.2.2.2.2.2.2.2.2.2.2.2.1, s.2.2.2.2.2.2.2.2.2.2.2.2.2.2.1, s.2.2.2.2.2.2.2.2.2.2.2.2.2.2.2.1, s.2.2.2.2.2.2.2.2.2.2.2.2.2.2.2.2.1, s.2.2.2.2.2.2.2.2.2.2.2.2.2.2.2.2.2.1, s.2.2.2.2.2.2.2.2.2.2.2.2.2.2.2.2.2.2.1, s.2.2.2.2.2.2.2.2.2.2.2.2.2.2.2.2.2.2.2.1, s.2.2.2.2.2.2.2.2.2.2.2.2.2.2.2.2.2.2.2.2.1, s.2.2.2.2.2.2.2.2.2.2.2.2.2.2.2.2.2.2.2.2.2.1, s.2.2.2.2.2.2.2.2.2.2.2.2.2.2.2.2.2.2.2.2.2.2.1, s.2.2.2.2.2.2.2.2.2.2.2.2.2.2.2.2.2.2.2.2.2.2.2)
abbrev S_li (s : St) (v : Nat → Bool) : St := (s.1, s.2.1, s.2.2.1, s.2.2.2.1, s.2.2.2.2.1, s.2.2.2.2.2.1, s.2.2.2.2.2.2.1, s.2.2.2.2.2.2.2.1, s.2.2.2.2.2.2.2.2.1, s.2.2.2.2.2.2.2.2.2.1, s.2.2.2.2.2.2.2.2.2.2.1, s.2.2.2.2.2.2.2.2.2.2.2.1, v, s.2.2.2.2.2.2.2.2.2.2.2.2.2.1, s.2.2.2.2.2.2.2.2.2.2.2.2.2.2.1, s.2.2.2.2.2.2.2.2.2.2.2.2.2.2.2.1, s.2.2.2.2.2.2.2.2.2.2.2.2.2.2.2.2.1, s.2.2.2.2.2.2.2.2.2.2.2.2.2.2.2.2.2.1, s.2.2.2.2.2.2.2.2.2.2.2.2.2.2.2.2.2.2.1, s.2.2.2.2.2.2.2.2.2.2.2.2.2.2.2.2.2.2.2.1, s.2.2.2.2.2.2.2.2.2.2.2.2.2.2.2.2.2.2.2.2.1, s.2.2.2.2.2.2.2.2.2.2.2.2.2.2.2.2.2.2.2.2.2.1, s.2.2.2.2.2.2.2.2.2.2.2.2.2.2.2.2.2.2.2.2.2.2.1, s.2.2.2.2.2.2.2.2.2.2.2.2.2.2.2.2.2.2.2.2.2.2.2)
abbrev S_lA (s : St) (v : Nat → Int32) : St := (s.1, s.2.1, s.2.2.1, s.2.2.2.1, s.2.2.2.2.1, s.2.2.2.2.2.1, s.2.2.2.2.2.2.1, s.2.2.2.2.2.2.2.1, s.2.2.2.2.2.2.2.2.1, s.2.2.2.2.2.2.2.2.2.1, s.2.2.2.2.2.2.2.2.2.2.1, s.2.2.2.2.2.2.2.2.2.2.2.1, s.2.2.2.2.2.2.2.2.2.2.2.2.1, v, s.2.2.2.2.2.2.2.2.2.2.2.2.2.2.1, s.2.2.2.2.2.2.2.2.2.2.2.2.2.2.2.1, s.2.2.2.2.2.2.2.2.2.2.2.2.2.2.2.2.1, s.2.2.2.2.2.2.2.2.2.2.2.2.2.2.2.2.2.1, s.2.2.2.2.2.2.2.2.2.2.2.2.2.2.2.2.2.2.1, s.2.2.2.2.2.2.2.2.2.2.2.2.2.2.2.2.2.2.2.1, s.2.2.2.2.2.2.2.2.2.2.2.2.2.2.2.2.2.2.2.2.1, s.2.2.2.2.2.2.2.2.2.2.2.2.2.2.2.2.2.2.2.2.2.1, s.2.2.2.2.2.2.2.2.2.2.2.2.2.2.2.2.2.2.2.2.2.2.1, s.2.2.2.2.2.2.2.2.2.2.2.2.2.2.2.2.2.2.2.2.2.2.2)
abbrev S_lB (s : St) (v : Nat → Int32) : St := (s.1, s.2.1, s.2.2.1, s.2.2.2.1, s.2.2.2.2.1, s.2.2.2.2.2.1, s.2.2.2.2.2.2.1, s.2.2.2.2.2.2.2.1, s.2.2.2.2.2.2.2.2.1, s.2.2.2.2.2.2.2.2.2.1, s.2.2.2.2.2.2.2.2.2.2.1, s.2.2.2.2.2.2.2.2.2.2.2.1, s.2.2.2.2.2.2.2.2.2.2.2.2.1, s.2.2.2.2.2.2.2.2.2.2.2.2.2.1, v, s.2.2.2.2.2.2.2.2.2.2.2.2.2.2.2.1, s.2.2.2.2.2.2.2.2.2.2.2.2.2.2.2.2.1, s.2.2.2.2.2.2.2.2.2.2.2.2.2.2.2.2.2.1, s.2.2.2.2.2.2.2.2.2.2.2.2.2.2.2.2.2.2.1, s.2.2.2.2.2.2.2.2.2.2.2.2.2.2.2.2.2.2.2.1, s.2.2.2.2.2.2.2.2.2.2.2.2.2.2.2.2.2.2.2.2.1, s.2.2.2.2.2.2.2.2.2.2.2.2.2.2.2.2.2.2.2.2.2.1, s.2.2.2.2.2.2.2.2.2.2.2.2.2.2.2.2.2.2.2.2.2.2.1, s.2.2.2.2.2.2.2.2.2.2.2.2.2.2.2.2.2.2.2.2.2.2.2)
abbrev S_lF (s : St) (v : Nat → Int32) : St := (s.1, s.2.1, s.2.2.1, s.2.2.2.1, s.2.2.2.2.1, s.2.2.2.2.2.1, s.2.2.2.2.2.2.1, s.2.2.2.2.2.2.2.1, s.2.2.2.2.2.2.2.2.1, s.2.2.2.2.2.2.2.2.2.1, s.2.2.2.2.2.2.2.2.2.2.1, s.2.2.2.2.2.2.2.2.2.2.2.1, s.2.2.2.2.2.2.2.2.2.2.2.2.1, s.2.2.2.2.2.2.2.2.2.2.2.2.2.1, s.2.2.2.2.2.2.2.2.2.2.2.2.2.2.1, v, s.2.2.2.2.2.2.2.2.2.2.2.2.2.2.2.2.1, s.2.2.2.2.2.2.2.2.2.2.2.2.2.2.2.2.2.1, s.2.2.2.2.2.2.2.2.2.2.2.2.2.2.2.2.2.2.1, s.2.2.2.2.2.2.2.2.2.2.2.2.2.2.2.2.2.2.2.1, s.2.2.2.2.2.2.2.2.2.2.2.2.2.2.2.2.2.2.2.2.1, s.2.2.2.2.2.2.2.2.2.2.2.2.2.2.2.2.2.2.2.2.2.1, s.2.2.2.2.2.2.2.2.2.2.2.2.2.2.2.2.2.2.2.2.2.2.1, s.2.2.2.2.2.2.2.2.2.2.2.2.2.2.2.2.2.2.2.2.2.2.2)
abbrev S_lc (s : St) (v : Nat) : St := (s.1, s.2.1, s.2.2.1, s.2.2.2.1, s.2.2.2.2.1, s.2.2.2.2.2.1, s.2.2.2.2.2.2.1, s.2.2.2.2.2.2.2.1, s.2.2.2.2.2.2.2.2.1, s.2.2.2.2.2.2.2.2.2.1, s.2.2.2.2.2.2.2.2.2.2.1, s.2.2.2.2.2.2.2.2.2.2.2.1, s.2.2.2.2.2.2.2.2.2.2.2.2.1, s.2.2.2.2.2.2.2.2.2.2.2.2.2.1, s.2.2.2.2.2.2.2.2.2.2.2.2.2.2.1, s.2.2.2.2.2.2.2.2.2.2.2.2.2.2.2.1, v, s.2.2.2.2.2.2.2.2.2.2.2.2.2.2.2.2.2.1, s.2.2.2.2.2.2.2.2.2.2.2.2.2.2.2.2.2.2.1, s.2.2.2.2.2.2.2.2.2.2.2.2.2.2.2.2.2.2.2.1, s.2.2.2.2.2.2.2.2.2.2.2.2.2.2.2.2.2.2.2.2.1, s.2.2.2.2.2.2.2.2.2.2.2.2.2.2.2.2.2.2.2.2.2.1, s.2.2.2.2.2.2.2.2.2.2.2.2.2.2.2.2.2.2.2.2.2.2.1, s.2.2.2.2.2.2.2.2.2.2.2.2.2.2.2.2.2.2.2.2.2.2.2)
abbrev S_ln (s : St) (v : Nat → Int32) : St := (s.1, s.2.1, s.2.2.1, s.2.2.2.1, s.2.2.2.2.1, s.2.2.2.2.2.1, s.2.2.2.2.2.2.1, s.2.2.2.2.2.2.2.1, s.2.2.2.2.2.2.2.2.1, s.2.2.2.2.2.2.2.2.2.1, s.2.2.2.2.2.2.2.2.2.2.1, s.2.2.2.2.2.2.2.2.2.2.2.1, s.2.2.2.2.2.2.2.2.2.2.2.2.1, s.2.2.2.2.2.2.2.2.2.2.2.2.2.1, s.2.2.2.2.2.2.2.2.2.2.2.2.2.2.1, s.2.2.2.2.2.2.2.2.2.2.2.2.2.2.2.1, s.2.2.2.2.2.2.2.2.2.2.2.2.2.2.2.2.1, v, s.2.2.2.2.2.2.2.2.2.2.2.2.2.2.2.2.2.2.1, s.2.2.2.2.2.2.2.2.2.2.2.2.2.2.2.2.2.2.2.1, s.2.2.2.2.2.2.2.2.2.2.2.2.2.2.2.2.2.2.2.2.1, s.2.2.2.2.2.2.2.2.2.2.2.2.2.2.2.2.2.2.2.2.2.1, s.2.2.2.2.2.2.2.2.2.2.2.2.2.2.2.2.2.2.2.2.2.2.1, s.2.2.2.2.2.2.2.2.2.2.2.2.2.2.2.2.2.2.2.2.2.2.2)
abbrev S_gc (s : St) (v : Nat) : St := (s.1, s.2.1, s.2.2.1, s.2.2.2.1, s.2.2.2.2.1, s.2.2.2.2.2.1, s.2.2.2.2.2.2.1, s.2.2.2.2.2.2.2.1, s.2.2.2.2.2.2.2.2.1, s.2.2.2.2.2.2.2.2.2.1, s.2.2.2.2.2.2.2.2.2.2.1, s.2.2.2.2.2.2.2.2.2.2.2.1, s.2.2.2.2.2.2.2.2.2.2.2.2.1, s.2.2.2.2.2.2.2.2.2.2.2.2.2.1, s.2.2.2.2.2.2.2.2.2.2.2.2.2.2.1, s.2.2.2.2.2.2.2.2.2.2.2.2.2.2.2.1, s.2.2.2.2.2.2.2.2.2.2.2.2.2.2.2.2.1, s.2.2.2.2.2.2.2.2.2.2.2.2.2.2.2.2.2.1, v, s.2.2.2.2.2.2.2.2.2.2.2.2.2.2.2.2.2.2.2.1, s.2.2.2.2.2.2.2.2.2.2.2.2.2.2.2.2.2.2.2.2.1, s.2.2.2.2.2.2.2.2.2.2.2.2.2.2.2.2.2.2.2.2.2.1, s.2.2.2.2.2.2.2.2.2.2.2.2.2.2.2.2.2.2.2.2.2.2.1, s.2.2.2.2.2.2.2.2.2.2.2.2.2.2.2.2.2.2.2.2.2.2.2)
abbrev S_gr (s : St) (v : Nat → Int64) : St := (s.1, s.2.1, s.2.2.1, s.2.2.2.1, s.2.2.2.2.1, s.2.2.2.2.2.1, s.2.2.2.2.2.2.1, s.2.2.2.2.2.2.2.1, s.2.2.2.2.2.2.2.2.1, s.2.2.2.2.2.2.2.2.2.1, s.2.2.2.2.2.2.2.2.2.2.1, s.2.2.2.2.2.2.2.2.2.2.2.1, s.2.2.2.2.2.2.2.2.2.2.2.2.1, s.2.2.2.2.2.2.2.2.2.2.2.2.2.1, s.2.2.2.2.2.2.2.2.2.2.2.2.2.2.1, s.2.2.2.2.2.2.2.2.2.2.2.2.2.2.2.1, s.2.2.2.2.2.2.2.2.2.2.2.2.2.2.2.2.1, s.2.2.2.2.2.2.2.2.2.2.2.2.2.2.2.2.2.1, s.2.2.2.2.2.2.2.2.2.2.2.2.2.2.2.2.2.2.1, v, s.2.2.2.2.2.2.2.2.2.2.2.2.2.2.2.2.2.2.2.2.1, s.2.2.2.2.2.2.2.2.2.2.2.2.2.2.2.2.2.2.2.2.2.1, s.2.2.2.2.2.2.2.2.2.2.2.2.2.2.2.2.2.2.2.2.2.2.1, s.2.2.2.2.2.2.2.2.2.2.2.2.2.2.2.2.2.2.2.2.2.2.2)
abbrev S_sn (s : St) (v : Int32) : St := (s.1, s.2.1, s.2.2.1, s.2.2.2.1, s.2.2.2.2.1, s.2.2.2.2.2.1, s.2.2.2.2.2.2.1, s.2.2.2.2.2.2.2.1, s.2.2.2.2.2.2.2.2.1, s.2.2.2.2.2.2.2.2.2.1, s.2.2.2.2.2.2.2.2.2.2.1, s.2.2.2.2.2.2.2.2.2.2.2.1, s.2.2.2.2.2.2.2.2.2.2.2.2.1, s.2.2.2.2.2.2.2.2.2.2.2.2.2.1, s.2.2.2.2.2.2.2.2.2.2.2.2.2.2.1, s.2.2.2.2.2.2.2.2.2.2.2.2.2.2.2.1, s.2.2.2.2.2.2.2.2.2.2.2.2.2.2.2.2.1, s.2.2.2.2.2.2.2.2.2.2.2.2.2.2.2.2.2.1, s.2.2.2.2.2.2.2.2.2.2.2.2.2.2.2.2.2.2.1, s.2.2.2.2.2.2.2.2.2.2.2.2.2.2.2.2.2.2.2.1, v, s.2.2.2.2.2.2.2.2.2.2.2.2.2.2.2.2.2.2.2.2.2.1, s.2.2.2.2.2.2.2.2.2.2.2.2.2.2.2.2.2.2.2.2.2.2.1, s.2.2.2.2.2.2.2.2.2.2.2.2.2.2.2.2.2.2.2.2.2.2.2)
abbrev S_cs (s : St) (v : Int32) : St := (s.1, s.2.1, s.2.2.1, s.2.2.2.1, s.2.2.2.2.1, s.2.2.2.2.2.1, s.2.2.2.2.2.2.1, s.2.2.2.2.2.2.2.1, s.2.2.2.2.2.2.2.2.1, s.2.2.2.2.2.2.2.2.2.1, s.2.2.2.2.2.2.2.2.2.2.1, s.2.2.2.2.2.2.2.2.2.2.2.1, s.2.2.2.2.2.2.2.2.2.2.2.2.1, s.2.2.2.2.2.2.2.2.2.2.2.2.2.1, s.2.2.2.2.2.2.2.2.2.2.2.2.2.2.1, s.2.2.2.2.2.2.2.2.2.2.2.2.2.2.2.1, s.2.2.2.2.2.2.2.2.2.2.2.2.2.2.2.2.1, s.2.2.2.2.2.2.2.2.2.2.2.2.2.2.2.2.2.1, s.2.2.2.2.2.2.2.2.2.2.2.2.2.2.2.2.2.2.1, s.2.2.2.2.2.2.2.2.2.2.2.2.2.2.2.2.2.2.2.1, s.2.2.2.2.2.2.2.2.2.2.2.2.2.2.2.2.2.2.2.2.1, v, s.2.2.2.2.2.2.2.2.2.2.2.2.2.2.2.2.2.2.2.2.2.2.1, s.2.2.2.2.2.2.2.2.2.2.2.2.2.2.2.2.2.2.2.2.2.2.2)
abbrev S_cc (s : St) (v : Nat → Int32) : St := (s.1, s.2.1, s.2.2.1, s.2.2.2.1, s.2.2.2.2.1, s.2.2.2.2.2.1, s.2.2.2.2.2.2.1, s.2.2.2.2.2.2.2.1, s.2.2.2.2.2.2.2.2.1, s.2.2.2.2.2.2.2.2.2.1, s.2.2.2.2.2.2.2.2.2.2.1, s.2.2.2.2.2.2.2.2.2.2.2.1, s.2.2.2.2.2.2.2.2.2.2.2.2.1, s.2.2.2.2.2.2.2.2.2.2.2.2.2.1, s.2.2.2.2.2.2.2.2.2.2.2.2.2.2.1, s.2.2.2.2.2.2.2.2.2.2.2.2.2.2.2.1, s.2.2.2.2.2.2.2.2.2.2.2.2.2.2.2.2.1, s.2.2.2.2.2.2.2.2.2.2.2.2.2.2.2.2.2.1, s.2.2.2.2.2.2.2.2.2.2.2.2.2.2.2.2.2.2.1, s.2.2.2.2.2.2.2.2.2.2.2.2.2.2.2.2.2.2.2.1, s.2.2.2.2.2.2.2.2.2.2.2.2.2.2.2.2.2.2.2.2.1, s.2.2.2.2.2.2.2.2.2.2.2.2.2.2.2.2.2.2.2.2.2.1, v, s.2.2.2.2.2.2.2.2.2.2.2.2.2.2.2.2.2.2.2.2.2.2.2)
abbrev S_md (s : St) (v : Nat) : St := (s.1, s.2.1, s.2.2.1, s.2.2.2.1, s.2.2.2.2.1, s.2.2.2.2.2.1, s.2.2.2.2.2.2.1, s.2.2.2.2.2.2.2.1, s.2.2.2.2.2.2.2.2.1, s.2.2.2.2.2.2.2.2.2.1, s.2.2.2.2.2.2.2.2.2.2.1, s.2.2.2.2.2.2.2.2.2.2.2.1, s.2.2.2.2.2.2.2.2.2.2.2.2.1, s.2.2.2.2.2.2.2.2.2.2.2.2.2.1, s.2.2.2.2.2.2.2.2.2.2.2.2.2.2.1, s.2.2.2.2.2.2.2.2.2.2.2.2.2.2.2.1, s.2.2.2.2.2.2.2.2.2.2.2.2.2.2.2.2.1, s.2.2.2.2.2.2.2.2.2.2.2.2.2.2.2.2.2.1, s.2.2.2.2.2.2.2.2.2.2.2.2.2.2.2.2.2.2.1, s.2.2.2.2.2.2.2.2.2.2.2.2.2.2.2.2.2.2.2.1, s.2.2.2.2.2.2.2.2.2.2.2.2.2.2.2.2.2.2.2.2.1, s.2.2.2.2.2.2.2.2.2.2.2.2.2.2.2.2.2.2.2.2.2.1, s.2.2.2.2.2.2.2.2.2.2.2.2.2.2.2.2.2.2.2.2.2.2.1, v)
abbrev Zc : Type := (Nat → Int32) × (Int32) × (Int64) × (Int64) × (Int64) × (Int64) × (Bool) × (Int32) × (Int32) × (Int32)
abbrev c_pp (s : Zc) : Nat → Int32 := s.1
abbrev c_sr (s : Zc) : Int32 := s.2.1
abbrev c_sl (s : Zc) : Int64 := s.2.2.1
abbrev c_sf (s : Zc) : Int64 := s.2.2.2.1
abbrev c_sq (s : Zc) : Int64 := s.2.2.2.2.1
abbrev c_sp (s : Zc) : Int64 := s.2.2.2.2.2.1
abbrev c_bi (s : Zc) : Bool := s.2.2.2.2.2.2.1
abbrev c_ba (s : Zc) : Int32 := s.2.2.2.2.2.2.2.1
abbrev c_bb (s : Zc) : Int32 := s.2.2.2.2.2.2.2.2.1
abbrev c_bf (s : Zc) : Int32 := s.2.2.2.2.2.2.2.2.2
abbrev C_pp (s : Zc) (v : Nat → Int32) : Zc := (v, s.2.1, s.2.2.1, s.2.2.2.1, s.2.2.2.2.1, s.2.2.2.2.2.1, s.2.2.2.2.2.2.1, s.2.2.2.2.2.2.2.1, s.2.2.2.2.2.2.2.2.1, s.2.2.2.2.2.2.2.2.2)
abbrev C_sr (s : Zc) (v : Int32) : Zc := (s.1, v, s.2.2.1, s.2.2.2.1, s.2.2.2.2.1, s.2.2.2.2.2.1, s.2.2.2.2.2.2.1, s.2.2.2.2.2.2.2.1, s.2.2.2.2.2.2.2.2.1, s.2.2.2.2.2.2.2.2.2)
abbrev C_sl (s : Zc) (v : Int64) : Zc := (s.1, s.2.1, v, s.2.2.2.1, s.2.2.2.2.1, s.2.2.2.2.2.1, s.2.2.2.2.2.2.1, s.2.2.2.2.2.2.2.1, s.2.2.2.2.2.2.2.2.1, s.2.2.2.2.2.2.2.2.2)
abbrev C_sf (s : Zc) (v : Int64) : Zc := (s.1, s.2.1, s.2.2.1, v, s.2.2.2.2.1, s.2.2.2.2.2.1, s.2.2.2.2.2.2.1, s.2.2.2.2.2.2.2.1, s.2.2.2.2.2.2.2.2.1, s.2.2.2.2.2.2.2.2.2)
abbrev C_sq (s : Zc) (v : Int64) : Zc := (s.1, s.2.1, s.2.2.1, s.2.2.2.1, v, s.2.2.2.2.2.1, s.2.2.2.2.2.2.1, s.2.2.2.2.2.2.2.1, s.2.2.2.2.2.2.2.2.1, s.2.2.2.2.2.2.2.2.2)
abbrev C_sp (s : Zc) (v : Int64) : Zc := (s.1, s.2.1, s.2.2.1, s.2.2.2.1, s.2.2.2.2.1, v, s.2.2.2.2.2.2.1, s.2.2.2.2.2.2.2.1, s.2.2.2.2.2.2.2.2.1, s.2.2.2.2.2.2.2.2.2)
abbrev C_bi (s : Zc) (v : Bool) : Zc := (s.1, s.2.1, s.2.2.1, s.2.2.2.1, s.2.2.2.2.1, s.2.2.2.2.2.1, v, s.2.2.2.2.2.2.2.1, s.2.2.2.2.2.2.2.2.1, s.2.2.2.2.2.2.2.2.2)
abbrev C_ba (s : Zc) (v : Int32) : Zc := (s.1, s.2.1, s.2.2.1, s.2.2.2.1, s.2.2.2.2.1, s.2.2.2.2.2.1, s.2.2.2.2.2.2.1, v, s.2.2.2.2.2.2.2.2.1, s.2.2.2.2.2.2.2.2.2)
abbrev C_bb (s : Zc) (v : Int32) : Zc := (s.1, s.2.1, s.2.2.1, s.2.2.2.1, s.2.2.2.2.1, s.2.2.2.2.2.1, s.2.2.2.2.2.2.1, s.2.2.2.2.2.2.2.1, v, s.2.2.2.2.2.2.2.2.2)
abbrev C_bf (s : Zc) (v : Int32) : Zc := (s.1, s.2.1, s.2.2.1, s.2.2.2.1, s.2.2.2.2.1, s.2.2.2.2.2.1, s.2.2.2.2.2.2.1, s.2.2.2.2.2.2.2.1, s.2.2.2.2.2.2.2.2.1, v)
abbrev Zm : Type := (Int32) × (Nat → Int32) × (Int32) × (Int64) × (Int64) × (Int64) × (Nat → Int32) × (Nat → Int32) × (Nat → Int32)
abbrev m_pm (s : Zm) : Int32 := s.1
abbrev m_pp (s : Zm) : Nat → Int32 := s.2.1
abbrev m_mo (s : Zm) : Int32 := s.2.2.1
abbrev m_bA (s : Zm) : Int64 := s.2.2.2.1
abbrev m_bB (s : Zm) : Int64 := s.2.2.2.2.1
abbrev m_hh (s : Zm) : Int64 := s.2.2.2.2.2.1
abbrev m_jA (s : Zm) : Nat → Int32 := s.2.2.2.2.2.2.1
abbrev m_jB (s : Zm) : Nat → Int32 := s.2.2.2.2.2.2.2.1
abbrev m_jF (s : Zm) : Nat → Int32 := s.2.2.2.2.2.2.2.2
abbrev M_pm (s : Zm) (v : Int32) : Zm := (v, s.2.1, s.2.2.1, s.2.2.2.1, s.2.2.2.2.1, s.2.2.2.2.2.1, s.2.2.2.2.2.2.1, s.2.2.2.2.2.2.2.1, s.2.2.2.2.2.2.2.2)
abbrev M_pp (s : Zm) (v : Nat → Int32) : Zm := (s.1, v, s.2.2.1, s.2.2.2.1, s.2.2.2.2.1, s.2.2.2.2.2.1, s.2.2.2.2.2.2.1, s.2.2.2.2.2.2.2.1, s.2.2.2.2.2.2.2.2)
abbrev M_mo (s : Zm) (v : Int32) : Zm := (s.1, s.2.1, v, s.2.2.2.1, s.2.2.2.2.1, s.2.2.2.2.2.1, s.2.2.2.2.2.2.1, s.2.2.2.2.2.2.2.1, s.2.2.2.2.2.2.2.2)
abbrev M_bA (s : Zm) (v : Int64) : Zm := (s.1, s.2.1, s.2.2.1, v, s.2.2.2.2.1, s.2.2.2.2.2.1, s.2.2.2.2.2.2.1, s.2.2.2.2.2.2.2.1, s.2.2.2.2.2.2.2.2)
abbrev M_bB (s : Zm) (v : Int64) : Zm := (s.1, s.2.1, s.2.2.1, s.2.2.2.1, v, s.2.2.2.2.2.1, s.2.2.2.2.2.2.1, s.2.2.2.2.2.2.2.1, s.2.2.2.2.2.2.2.2)
abbrev M_hh (s : Zm) (v : Int64) : Zm := (s.1, s.2.1, s.2.2.1, s.2.2.2.1, s.2.2.2.2.1, v, s.2.2.2.2.2.2.1, s.2.2.2.2.2.2.2.1, s.2.2.2.2.2.2.2.2)
abbrev M_jA (s : Zm) (v : Nat → Int32) : Zm := (s.1, s.2.1, s.2.2.1, s.2.2.2.1, s.2.2.2.2.1, s.2.2.2.2.2.1, v, s.2.2.2.2.2.2.2.1, s.2.2.2.2.2.2.2.2)
abbrev M_jB (s : Zm) (v : Nat → Int32) : Zm := (s.1, s.2.1, s.2.2.1, s.2.2.2.1, s.2.2.2.2.1, s.2.2.2.2.2.1, s.2.2.2.2.2.2.1, v, s.2.2.2.2.2.2.2.2)
abbrev M_jF (s : Zm) (v : Nat → Int32) : Zm := (s.1, s.2.1, s.2.2.1, s.2.2.2.1, s.2.2.2.2.1, s.2.2.2.2.2.1, s.2.2.2.2.2.2.1, s.2.2.2.2.2.2.2.1, v)
def oC (ad : Nat → Nat) (s : St) : va_E := .inr (4, [.ref (ad 1), .ref (ad 2), .ref (ad 3), .int (nI (s_cn s)), .ref (ad 4), .int (nI (s_lc s)), .ref (ad 5), .int (nI (s_gc s)), .int (s_sn s), .int (s_cs s), .ref (ad 6), .int (nI (s_md s)), .ref (ad 7), .ref (ad 8), .ref (ad 9)])
def oP (ad : Nat → Nat) (s : St) (p : Nat) : va_E := .inr (2, [.int (b2i (s_lost s p)), .int (nI (s_lane s p)), .int (nI (s_w s p)), .int (nI (s_h s p)), .ref (ad (11 + 2 * p))])
def oK (ad : Nat → Nat) (s : St) (c : Nat) : va_E := .inr (0, [.int (nI (s_ca s c)), .int (nI (s_cb s c)), .int (nI (s_cr s c)), .int (nI (s_co s c)), .ref (ad (23 + 3 * c)), .ref (ad (24 + 3 * c))])
def oL (s : St) (c : Nat) : va_E := .inr (1, [.int (b2i (s_li s c)), .int (s_lA s c), .int (s_lB s c), .int (s_lF s c)])
def CW (G : eG) (ad : Nat → Nat) (s : St) (z : Zc) (hm h : Nat → va_E) : Prop :=
  (h 0 = oC ad s) ∧
  (h 1 = .inl (G.2.2 3, 6, .inr (.inr (.inr (.inr (fun i => some (ad (10 + 2 * i)))))))) ∧
  (h 2 = .inl (G.2.2 2, 400, .inl (fun i => b2i (s_bad s i)))) ∧
  (h 3 = .inl (G.2.2 4, 4, .inr (.inr (.inr (.inr (fun i => some (ad (22 + 3 * i)))))))) ∧
  (h 4 = .inl (G.2.2 0, 12, .inl (s_ln s))) ∧
  (h 5 = .inl (G.2.2 1, 60, .inr (.inl (s_gr s)))) ∧
  (h 6 = .inl (G.2.2 0, 6, .inl (s_cc s))) ∧
  (h 7 = .inl (G.2.2 0, 20, .inl (c_pp z))) ∧
  (h 8 = .inr (3, [.int (c_sr z), .long (c_sl z), .long (c_sf z), .long (c_sq z), .long (c_sp z)])) ∧
  (h 9 = .inr (1, [.int (b2i (c_bi z)), .int (c_ba z), .int (c_bb z), .int (c_bf z)])) ∧
  (∀ p : Nat, p < 6 → h (10 + 2 * p) = oP ad s p) ∧
  (∀ p : Nat, p < 6 → h (11 + 2 * p) = .inl (G.2.2 0, 400, .inl (s_ct s p))) ∧
  (∀ c : Nat, c < 4 → h (22 + 3 * c) = oK ad s c) ∧
  (∀ c : Nat, c < 4 → h (23 + 3 * c) = .inl (G.2.2 1, 20, .inr (.inl (fun x => lN (s_nm s c x))))) ∧
  (∀ c : Nat, c < 4 → h (24 + 3 * c) = oL s c) ∧
  (∀ k : Nat, 34 ≤ k → h k = hm k)
theorem CW.h0 {G : eG} {ad : Nat → Nat} {s : St} {z : Zc} {hm h : Nat → va_E} (hw : CW G ad s z hm h) : h 0 = oC ad s := hw.1
theorem CW.h1 {G : eG} {ad : Nat → Nat} {s : St} {z : Zc} {hm h : Nat → va_E} (hw : CW G ad s z hm h) : h 1 = .inl (G.2.2 3, 6, .inr (.inr (.inr (.inr (fun i => some (ad (10 + 2 * i))))))) := hw.2.1
theorem CW.h2 {G : eG} {ad : Nat → Nat} {s : St} {z : Zc} {hm h : Nat → va_E} (hw : CW G ad s z hm h) : h 2 = .inl (G.2.2 2, 400, .inl (fun i => b2i (s_bad s i))) := hw.2.2.1
theorem CW.h3 {G : eG} {ad : Nat → Nat} {s : St} {z : Zc} {hm h : Nat → va_E} (hw : CW G ad s z hm h) : h 3 = .inl (G.2.2 4, 4, .inr (.inr (.inr (.inr (fun i => some (ad (22 + 3 * i))))))) := hw.2.2.2.1
theorem CW.h4 {G : eG} {ad : Nat → Nat} {s : St} {z : Zc} {hm h : Nat → va_E} (hw : CW G ad s z hm h) : h 4 = .inl (G.2.2 0, 12, .inl (s_ln s)) := hw.2.2.2.2.1
theorem CW.h5 {G : eG} {ad : Nat → Nat} {s : St} {z : Zc} {hm h : Nat → va_E} (hw : CW G ad s z hm h) : h 5 = .inl (G.2.2 1, 60, .inr (.inl (s_gr s))) := hw.2.2.2.2.2.1
theorem CW.h6 {G : eG} {ad : Nat → Nat} {s : St} {z : Zc} {hm h : Nat → va_E} (hw : CW G ad s z hm h) : h 6 = .inl (G.2.2 0, 6, .inl (s_cc s)) := hw.2.2.2.2.2.2.1
theorem CW.h7 {G : eG} {ad : Nat → Nat} {s : St} {z : Zc} {hm h : Nat → va_E} (hw : CW G ad s z hm h) : h 7 = .inl (G.2.2 0, 20, .inl (c_pp z)) := hw.2.2.2.2.2.2.2.1
theorem CW.h8 {G : eG} {ad : Nat → Nat} {s : St} {z : Zc} {hm h : Nat → va_E} (hw : CW G ad s z hm h) : h 8 = .inr (3, [.int (c_sr z), .long (c_sl z), .long (c_sf z), .long (c_sq z), .long (c_sp z)]) := hw.2.2.2.2.2.2.2.2.1
theorem CW.h9 {G : eG} {ad : Nat → Nat} {s : St} {z : Zc} {hm h : Nat → va_E} (hw : CW G ad s z hm h) : h 9 = .inr (1, [.int (b2i (c_bi z)), .int (c_ba z), .int (c_bb z), .int (c_bf z)]) := hw.2.2.2.2.2.2.2.2.2.1
theorem CW.pl {G : eG} {ad : Nat → Nat} {s : St} {z : Zc} {hm h : Nat → va_E} (hw : CW G ad s z hm h) : ∀ p : Nat, p < 6 → h (10 + 2 * p) = oP ad s p := hw.2.2.2.2.2.2.2.2.2.2.1
theorem CW.ct {G : eG} {ad : Nat → Nat} {s : St} {z : Zc} {hm h : Nat → va_E} (hw : CW G ad s z hm h) : ∀ p : Nat, p < 6 → h (11 + 2 * p) = .inl (G.2.2 0, 400, .inl (s_ct s p)) := hw.2.2.2.2.2.2.2.2.2.2.2.1
theorem CW.kb {G : eG} {ad : Nat → Nat} {s : St} {z : Zc} {hm h : Nat → va_E} (hw : CW G ad s z hm h) : ∀ c : Nat, c < 4 → h (22 + 3 * c) = oK ad s c := hw.2.2.2.2.2.2.2.2.2.2.2.2.1
theorem CW.nm {G : eG} {ad : Nat → Nat} {s : St} {z : Zc} {hm h : Nat → va_E} (hw : CW G ad s z hm h) : ∀ c : Nat, c < 4 → h (23 + 3 * c) = .inl (G.2.2 1, 20, .inr (.inl (fun x => lN (s_nm s c x)))) := hw.2.2.2.2.2.2.2.2.2.2.2.2.2.1
theorem CW.lw {G : eG} {ad : Nat → Nat} {s : St} {z : Zc} {hm h : Nat → va_E} (hw : CW G ad s z hm h) : ∀ c : Nat, c < 4 → h (24 + 3 * c) = oL s c := hw.2.2.2.2.2.2.2.2.2.2.2.2.2.2.1
theorem CW.fr {G : eG} {ad : Nat → Nat} {s : St} {z : Zc} {hm h : Nat → va_E} (hw : CW G ad s z hm h) : ∀ k : Nat, 34 ≤ k → h k = hm k := hw.2.2.2.2.2.2.2.2.2.2.2.2.2.2.2
theorem va_up_n {α : Type} {f : Nat → α} {k j : Nat} {v : α} (h : j ≠ k) : va_up f k v j = f j := by simp [va_up, h]
theorem va_up_s {α : Type} {f : Nat → α} {k : Nat} {v : α} : va_up f k v k = v := by simp [va_up]
theorem CW.set_cn {G : eG} {ad : Nat → Nat} {s : St} {z : Zc} {hm h : Nat → va_E} (hw : CW G ad s z hm h) (v : Nat)  : CW G ad (S_cn s v) z hm (va_up h 0 (oC ad (S_cn s v))) := by
  refine ⟨?_, ?_, ?_, ?_, ?_, ?_, ?_, ?_, ?_, ?_, ?_, ?_, ?_, ?_, ?_, ?_⟩
  · exact va_up_s
  · exact (va_up_n (by omega)).trans hw.h1
  · exact (va_up_n (by omega)).trans hw.h2
  · exact (va_up_n (by omega)).trans hw.h3
  · exact (va_up_n (by omega)).trans hw.h4
  · exact (va_up_n (by omega)).trans hw.h5
  · exact (va_up_n (by omega)).trans hw.h6
  · exact (va_up_n (by omega)).trans hw.h7
  · exact (va_up_n (by omega)).trans hw.h8
  · exact (va_up_n (by omega)).trans hw.h9
  · exact fun j hj => (va_up_n (by omega)).trans (hw.pl j hj)
  · exact fun j hj => (va_up_n (by omega)).trans (hw.ct j hj)
  · exact fun j hj => (va_up_n (by omega)).trans (hw.kb j hj)
  · exact fun j hj => (va_up_n (by omega)).trans (hw.nm j hj)
  · exact fun j hj => (va_up_n (by omega)).trans (hw.lw j hj)
  · exact fun j hj => (va_up_n (by omega)).trans (hw.fr j hj)
theorem CW.set_lc {G : eG} {ad : Nat → Nat} {s : St} {z : Zc} {hm h : Nat → va_E} (hw : CW G ad s z hm h) (v : Nat)  : CW G ad (S_lc s v) z hm (va_up h 0 (oC ad (S_lc s v))) := by
  refine ⟨?_, ?_, ?_, ?_, ?_, ?_, ?_, ?_, ?_, ?_, ?_, ?_, ?_, ?_, ?_, ?_⟩
  · exact va_up_s
  · exact (va_up_n (by omega)).trans hw.h1
  · exact (va_up_n (by omega)).trans hw.h2
  · exact (va_up_n (by omega)).trans hw.h3
  · exact (va_up_n (by omega)).trans hw.h4
  · exact (va_up_n (by omega)).trans hw.h5
  · exact (va_up_n (by omega)).trans hw.h6
  · exact (va_up_n (by omega)).trans hw.h7
  · exact (va_up_n (by omega)).trans hw.h8
  · exact (va_up_n (by omega)).trans hw.h9
  · exact fun j hj => (va_up_n (by omega)).trans (hw.pl j hj)
  · exact fun j hj => (va_up_n (by omega)).trans (hw.ct j hj)
  · exact fun j hj => (va_up_n (by omega)).trans (hw.kb j hj)
  · exact fun j hj => (va_up_n (by omega)).trans (hw.nm j hj)
  · exact fun j hj => (va_up_n (by omega)).trans (hw.lw j hj)
  · exact fun j hj => (va_up_n (by omega)).trans (hw.fr j hj)
theorem CW.set_gc {G : eG} {ad : Nat → Nat} {s : St} {z : Zc} {hm h : Nat → va_E} (hw : CW G ad s z hm h) (v : Nat)  : CW G ad (S_gc s v) z hm (va_up h 0 (oC ad (S_gc s v))) := by
  refine ⟨?_, ?_, ?_, ?_, ?_, ?_, ?_, ?_, ?_, ?_, ?_, ?_, ?_, ?_, ?_, ?_⟩
  · exact va_up_s
  · exact (va_up_n (by omega)).trans hw.h1
  · exact (va_up_n (by omega)).trans hw.h2
  · exact (va_up_n (by omega)).trans hw.h3
  · exact (va_up_n (by omega)).trans hw.h4
  · exact (va_up_n (by omega)).trans hw.h5
  · exact (va_up_n (by omega)).trans hw.h6
  · exact (va_up_n (by omega)).trans hw.h7
  · exact (va_up_n (by omega)).trans hw.h8
  · exact (va_up_n (by omega)).trans hw.h9
  · exact fun j hj => (va_up_n (by omega)).trans (hw.pl j hj)
  · exact fun j hj => (va_up_n (by omega)).trans (hw.ct j hj)
  · exact fun j hj => (va_up_n (by omega)).trans (hw.kb j hj)
  · exact fun j hj => (va_up_n (by omega)).trans (hw.nm j hj)
  · exact fun j hj => (va_up_n (by omega)).trans (hw.lw j hj)
  · exact fun j hj => (va_up_n (by omega)).trans (hw.fr j hj)
theorem CW.set_sn {G : eG} {ad : Nat → Nat} {s : St} {z : Zc} {hm h : Nat → va_E} (hw : CW G ad s z hm h) (v : Int32)  : CW G ad (S_sn s v) z hm (va_up h 0 (oC ad (S_sn s v))) := by
  refine ⟨?_, ?_, ?_, ?_, ?_, ?_, ?_, ?_, ?_, ?_, ?_, ?_, ?_, ?_, ?_, ?_⟩
  · exact va_up_s
  · exact (va_up_n (by omega)).trans hw.h1
  · exact (va_up_n (by omega)).trans hw.h2
  · exact (va_up_n (by omega)).trans hw.h3
  · exact (va_up_n (by omega)).trans hw.h4
  · exact (va_up_n (by omega)).trans hw.h5
  · exact (va_up_n (by omega)).trans hw.h6
  · exact (va_up_n (by omega)).trans hw.h7
  · exact (va_up_n (by omega)).trans hw.h8
  · exact (va_up_n (by omega)).trans hw.h9
  · exact fun j hj => (va_up_n (by omega)).trans (hw.pl j hj)
  · exact fun j hj => (va_up_n (by omega)).trans (hw.ct j hj)
  · exact fun j hj => (va_up_n (by omega)).trans (hw.kb j hj)
  · exact fun j hj => (va_up_n (by omega)).trans (hw.nm j hj)
  · exact fun j hj => (va_up_n (by omega)).trans (hw.lw j hj)
  · exact fun j hj => (va_up_n (by omega)).trans (hw.fr j hj)
theorem CW.set_cs {G : eG} {ad : Nat → Nat} {s : St} {z : Zc} {hm h : Nat → va_E} (hw : CW G ad s z hm h) (v : Int32)  : CW G ad (S_cs s v) z hm (va_up h 0 (oC ad (S_cs s v))) := by
  refine ⟨?_, ?_, ?_, ?_, ?_, ?_, ?_, ?_, ?_, ?_, ?_, ?_, ?_, ?_, ?_, ?_⟩
  · exact va_up_s
  · exact (va_up_n (by omega)).trans hw.h1
  · exact (va_up_n (by omega)).trans hw.h2
  · exact (va_up_n (by omega)).trans hw.h3
  · exact (va_up_n (by omega)).trans hw.h4
  · exact (va_up_n (by omega)).trans hw.h5
  · exact (va_up_n (by omega)).trans hw.h6
  · exact (va_up_n (by omega)).trans hw.h7
  · exact (va_up_n (by omega)).trans hw.h8
  · exact (va_up_n (by omega)).trans hw.h9
  · exact fun j hj => (va_up_n (by omega)).trans (hw.pl j hj)
  · exact fun j hj => (va_up_n (by omega)).trans (hw.ct j hj)
  · exact fun j hj => (va_up_n (by omega)).trans (hw.kb j hj)
  · exact fun j hj => (va_up_n (by omega)).trans (hw.nm j hj)
  · exact fun j hj => (va_up_n (by omega)).trans (hw.lw j hj)
  · exact fun j hj => (va_up_n (by omega)).trans (hw.fr j hj)
theorem CW.set_md {G : eG} {ad : Nat → Nat} {s : St} {z : Zc} {hm h : Nat → va_E} (hw : CW G ad s z hm h) (v : Nat)  : CW G ad (S_md s v) z hm (va_up h 0 (oC ad (S_md s v))) := by
  refine ⟨?_, ?_, ?_, ?_, ?_, ?_, ?_, ?_, ?_, ?_, ?_, ?_, ?_, ?_, ?_, ?_⟩
  · exact va_up_s
  · exact (va_up_n (by omega)).trans hw.h1
  · exact (va_up_n (by omega)).trans hw.h2
  · exact (va_up_n (by omega)).trans hw.h3
  · exact (va_up_n (by omega)).trans hw.h4
  · exact (va_up_n (by omega)).trans hw.h5
  · exact (va_up_n (by omega)).trans hw.h6
  · exact (va_up_n (by omega)).trans hw.h7
  · exact (va_up_n (by omega)).trans hw.h8
  · exact (va_up_n (by omega)).trans hw.h9
  · exact fun j hj => (va_up_n (by omega)).trans (hw.pl j hj)
  · exact fun j hj => (va_up_n (by omega)).trans (hw.ct j hj)
  · exact fun j hj => (va_up_n (by omega)).trans (hw.kb j hj)
  · exact fun j hj => (va_up_n (by omega)).trans (hw.nm j hj)
  · exact fun j hj => (va_up_n (by omega)).trans (hw.lw j hj)
  · exact fun j hj => (va_up_n (by omega)).trans (hw.fr j hj)
theorem CW.set_bad {G : eG} {ad : Nat → Nat} {s : St} {z : Zc} {hm h : Nat → va_E} (hw : CW G ad s z hm h) (k : Nat) (b : Bool)  : CW G ad (S_bad s (va_up (s_bad s) k b)) z hm (va_up h 2 (.inl (G.2.2 2, 400, .inl (upd (fun i => b2i (s_bad s i)) k (b2i b))))) := by
  refine ⟨?_, ?_, ?_, ?_, ?_, ?_, ?_, ?_, ?_, ?_, ?_, ?_, ?_, ?_, ?_, ?_⟩
  · exact (va_up_n (by omega)).trans hw.h0
  · exact (va_up_n (by omega)).trans hw.h1
  · exact va_up_s.trans (by congr 4; funext i; simp only [upd, va_up, s_lost, s_lane, s_w, s_h, s_ct, s_bad, s_cn, s_ca, s_cb, s_cr, s_co, s_nm, s_li, s_lA, s_lB, s_lF, s_lc, s_ln, s_gc, s_gr, s_sn, s_cs, s_cc, s_md, S_lost, S_lane, S_w, S_h, S_ct, S_bad, S_cn, S_ca, S_cb, S_cr, S_co, S_nm, S_li, S_lA, S_lB, S_lF, S_lc, S_ln, S_gc, S_gr, S_sn, S_cs, S_cc, S_md, c_pp, c_sr, c_sl, c_sf, c_sq, c_sp, c_bi, c_ba, c_bb, c_bf, C_pp, C_sr, C_sl, C_sf, C_sq, C_sp, C_bi, C_ba, C_bb, C_bf, m_pm, m_pp, m_mo, m_bA, m_bB, m_hh, m_jA, m_jB, m_jF, M_pm, M_pp, M_mo, M_bA, M_bB, M_hh, M_jA, M_jB, M_jF]; split <;> rfl)
  · exact (va_up_n (by omega)).trans hw.h3
  · exact (va_up_n (by omega)).trans hw.h4
  · exact (va_up_n (by omega)).trans hw.h5
  · exact (va_up_n (by omega)).trans hw.h6
  · exact (va_up_n (by omega)).trans hw.h7
  · exact (va_up_n (by omega)).trans hw.h8
  · exact (va_up_n (by omega)).trans hw.h9
  · exact fun j hj => (va_up_n (by omega)).trans (hw.pl j hj)
  · exact fun j hj => (va_up_n (by omega)).trans (hw.ct j hj)
  · exact fun j hj => (va_up_n (by omega)).trans (hw.kb j hj)
  · exact fun j hj => (va_up_n (by omega)).trans (hw.nm j hj)
  · exact fun j hj => (va_up_n (by omega)).trans (hw.lw j hj)
  · exact fun j hj => (va_up_n (by omega)).trans (hw.fr j hj)
theorem CW.set_ln {G : eG} {ad : Nat → Nat} {s : St} {z : Zc} {hm h : Nat → va_E} (hw : CW G ad s z hm h) (k : Nat) (v : Int32)  : CW G ad (S_ln s (upd (s_ln s) k v)) z hm (va_up h 4 (.inl (G.2.2 0, 12, .inl (upd (s_ln s) k v)))) := by
  refine ⟨?_, ?_, ?_, ?_, ?_, ?_, ?_, ?_, ?_, ?_, ?_, ?_, ?_, ?_, ?_, ?_⟩
  · exact (va_up_n (by omega)).trans hw.h0
  · exact (va_up_n (by omega)).trans hw.h1
  · exact (va_up_n (by omega)).trans hw.h2
  · exact (va_up_n (by omega)).trans hw.h3
  · exact va_up_s
  · exact (va_up_n (by omega)).trans hw.h5
  · exact (va_up_n (by omega)).trans hw.h6
  · exact (va_up_n (by omega)).trans hw.h7
  · exact (va_up_n (by omega)).trans hw.h8
  · exact (va_up_n (by omega)).trans hw.h9
  · exact fun j hj => (va_up_n (by omega)).trans (hw.pl j hj)
  · exact fun j hj => (va_up_n (by omega)).trans (hw.ct j hj)
  · exact fun j hj => (va_up_n (by omega)).trans (hw.kb j hj)
  · exact fun j hj => (va_up_n (by omega)).trans (hw.nm j hj)
  · exact fun j hj => (va_up_n (by omega)).trans (hw.lw j hj)
  · exact fun j hj => (va_up_n (by omega)).trans (hw.fr j hj)
theorem CW.set_gr {G : eG} {ad : Nat → Nat} {s : St} {z : Zc} {hm h : Nat → va_E} (hw : CW G ad s z hm h) (k : Nat) (v : Int64)  : CW G ad (S_gr s (vp_updL (s_gr s) k v)) z hm (va_up h 5 (.inl (G.2.2 1, 60, .inr (.inl (vp_updL (s_gr s) k v))))) := by
  refine ⟨?_, ?_, ?_, ?_, ?_, ?_, ?_, ?_, ?_, ?_, ?_, ?_, ?_, ?_, ?_, ?_⟩
  · exact (va_up_n (by omega)).trans hw.h0
  · exact (va_up_n (by omega)).trans hw.h1
  · exact (va_up_n (by omega)).trans hw.h2
  · exact (va_up_n (by omega)).trans hw.h3
  · exact (va_up_n (by omega)).trans hw.h4
  · exact va_up_s
  · exact (va_up_n (by omega)).trans hw.h6
  · exact (va_up_n (by omega)).trans hw.h7
  · exact (va_up_n (by omega)).trans hw.h8
  · exact (va_up_n (by omega)).trans hw.h9
  · exact fun j hj => (va_up_n (by omega)).trans (hw.pl j hj)
  · exact fun j hj => (va_up_n (by omega)).trans (hw.ct j hj)
  · exact fun j hj => (va_up_n (by omega)).trans (hw.kb j hj)
  · exact fun j hj => (va_up_n (by omega)).trans (hw.nm j hj)
  · exact fun j hj => (va_up_n (by omega)).trans (hw.lw j hj)
  · exact fun j hj => (va_up_n (by omega)).trans (hw.fr j hj)
theorem CW.set_cc {G : eG} {ad : Nat → Nat} {s : St} {z : Zc} {hm h : Nat → va_E} (hw : CW G ad s z hm h) (k : Nat) (v : Int32)  : CW G ad (S_cc s (upd (s_cc s) k v)) z hm (va_up h 6 (.inl (G.2.2 0, 6, .inl (upd (s_cc s) k v)))) := by
  refine ⟨?_, ?_, ?_, ?_, ?_, ?_, ?_, ?_, ?_, ?_, ?_, ?_, ?_, ?_, ?_, ?_⟩
  · exact (va_up_n (by omega)).trans hw.h0
  · exact (va_up_n (by omega)).trans hw.h1
  · exact (va_up_n (by omega)).trans hw.h2
  · exact (va_up_n (by omega)).trans hw.h3
  · exact (va_up_n (by omega)).trans hw.h4
  · exact (va_up_n (by omega)).trans hw.h5
  · exact va_up_s
  · exact (va_up_n (by omega)).trans hw.h7
  · exact (va_up_n (by omega)).trans hw.h8
  · exact (va_up_n (by omega)).trans hw.h9
  · exact fun j hj => (va_up_n (by omega)).trans (hw.pl j hj)
  · exact fun j hj => (va_up_n (by omega)).trans (hw.ct j hj)
  · exact fun j hj => (va_up_n (by omega)).trans (hw.kb j hj)
  · exact fun j hj => (va_up_n (by omega)).trans (hw.nm j hj)
  · exact fun j hj => (va_up_n (by omega)).trans (hw.lw j hj)
  · exact fun j hj => (va_up_n (by omega)).trans (hw.fr j hj)
theorem CW.set_pp {G : eG} {ad : Nat → Nat} {s : St} {z : Zc} {hm h : Nat → va_E} (hw : CW G ad s z hm h) (k : Nat) (v : Int32)  : CW G ad s (C_pp z (upd (c_pp z) k v)) hm (va_up h 7 (.inl (G.2.2 0, 20, .inl (upd (c_pp z) k v)))) := by
  refine ⟨?_, ?_, ?_, ?_, ?_, ?_, ?_, ?_, ?_, ?_, ?_, ?_, ?_, ?_, ?_, ?_⟩
  · exact (va_up_n (by omega)).trans hw.h0
  · exact (va_up_n (by omega)).trans hw.h1
  · exact (va_up_n (by omega)).trans hw.h2
  · exact (va_up_n (by omega)).trans hw.h3
  · exact (va_up_n (by omega)).trans hw.h4
  · exact (va_up_n (by omega)).trans hw.h5
  · exact (va_up_n (by omega)).trans hw.h6
  · exact va_up_s
  · exact (va_up_n (by omega)).trans hw.h8
  · exact (va_up_n (by omega)).trans hw.h9
  · exact fun j hj => (va_up_n (by omega)).trans (hw.pl j hj)
  · exact fun j hj => (va_up_n (by omega)).trans (hw.ct j hj)
  · exact fun j hj => (va_up_n (by omega)).trans (hw.kb j hj)
  · exact fun j hj => (va_up_n (by omega)).trans (hw.nm j hj)
  · exact fun j hj => (va_up_n (by omega)).trans (hw.lw j hj)
  · exact fun j hj => (va_up_n (by omega)).trans (hw.fr j hj)
theorem CW.set_h8 {G : eG} {ad : Nat → Nat} {s : St} {z : Zc} {hm h : Nat → va_E} (hw : CW G ad s z hm h) (a : Int32) (b c d e : Int64)  : CW G ad s (C_sp (C_sq (C_sf (C_sl (C_sr z a) b) c) d) e) hm (va_up h 8 (.inr (3, [.int a, .long b, .long c, .long d, .long e]))) := by
  refine ⟨?_, ?_, ?_, ?_, ?_, ?_, ?_, ?_, ?_, ?_, ?_, ?_, ?_, ?_, ?_, ?_⟩
  · exact (va_up_n (by omega)).trans hw.h0
  · exact (va_up_n (by omega)).trans hw.h1
  · exact (va_up_n (by omega)).trans hw.h2
  · exact (va_up_n (by omega)).trans hw.h3
  · exact (va_up_n (by omega)).trans hw.h4
  · exact (va_up_n (by omega)).trans hw.h5
  · exact (va_up_n (by omega)).trans hw.h6
  · exact (va_up_n (by omega)).trans hw.h7
  · exact va_up_s
  · exact (va_up_n (by omega)).trans hw.h9
  · exact fun j hj => (va_up_n (by omega)).trans (hw.pl j hj)
  · exact fun j hj => (va_up_n (by omega)).trans (hw.ct j hj)
  · exact fun j hj => (va_up_n (by omega)).trans (hw.kb j hj)
  · exact fun j hj => (va_up_n (by omega)).trans (hw.nm j hj)
  · exact fun j hj => (va_up_n (by omega)).trans (hw.lw j hj)
  · exact fun j hj => (va_up_n (by omega)).trans (hw.fr j hj)
theorem CW.set_h9 {G : eG} {ad : Nat → Nat} {s : St} {z : Zc} {hm h : Nat → va_E} (hw : CW G ad s z hm h) (b : Bool) (a1 a2 a3 : Int32)  : CW G ad s (C_bf (C_bb (C_ba (C_bi z b) a1) a2) a3) hm (va_up h 9 (.inr (1, [.int (b2i b), .int a1, .int a2, .int a3]))) := by
  refine ⟨?_, ?_, ?_, ?_, ?_, ?_, ?_, ?_, ?_, ?_, ?_, ?_, ?_, ?_, ?_, ?_⟩
  · exact (va_up_n (by omega)).trans hw.h0
  · exact (va_up_n (by omega)).trans hw.h1
  · exact (va_up_n (by omega)).trans hw.h2
  · exact (va_up_n (by omega)).trans hw.h3
  · exact (va_up_n (by omega)).trans hw.h4
  · exact (va_up_n (by omega)).trans hw.h5
  · exact (va_up_n (by omega)).trans hw.h6
  · exact (va_up_n (by omega)).trans hw.h7
  · exact (va_up_n (by omega)).trans hw.h8
  · exact va_up_s
  · exact fun j hj => (va_up_n (by omega)).trans (hw.pl j hj)
  · exact fun j hj => (va_up_n (by omega)).trans (hw.ct j hj)
  · exact fun j hj => (va_up_n (by omega)).trans (hw.kb j hj)
  · exact fun j hj => (va_up_n (by omega)).trans (hw.nm j hj)
  · exact fun j hj => (va_up_n (by omega)).trans (hw.lw j hj)
  · exact fun j hj => (va_up_n (by omega)).trans (hw.fr j hj)
theorem CW.set_lost {G : eG} {ad : Nat → Nat} {s : St} {z : Zc} {hm h : Nat → va_E} (hw : CW G ad s z hm h) (p : Nat) (b : Bool) (hp : p < 6) : CW G ad (S_lost s (va_up (s_lost s) p b)) z hm (va_up h (10 + 2 * p) (.inr (2, [.int (b2i b), .int (nI (s_lane s p)), .int (nI (s_w s p)), .int (nI (s_h s p)), .ref (ad (11 + 2 * p))]))) := by
  refine ⟨?_, ?_, ?_, ?_, ?_, ?_, ?_, ?_, ?_, ?_, ?_, ?_, ?_, ?_, ?_, ?_⟩
  · exact (va_up_n (by omega)).trans hw.h0
  · exact (va_up_n (by omega)).trans hw.h1
  · exact (va_up_n (by omega)).trans hw.h2
  · exact (va_up_n (by omega)).trans hw.h3
  · exact (va_up_n (by omega)).trans hw.h4
  · exact (va_up_n (by omega)).trans hw.h5
  · exact (va_up_n (by omega)).trans hw.h6
  · exact (va_up_n (by omega)).trans hw.h7
  · exact (va_up_n (by omega)).trans hw.h8
  · exact (va_up_n (by omega)).trans hw.h9
  · exact (by
    intro q hq
    by_cases e : q = p
    · subst e; rw [va_up_s]; simp [oP, va_up, s_lost, s_lane, s_w, s_h, s_ct, s_bad, s_cn, s_ca, s_cb, s_cr, s_co, s_nm, s_li, s_lA, s_lB, s_lF, s_lc, s_ln, s_gc, s_gr, s_sn, s_cs, s_cc, s_md, S_lost, S_lane, S_w, S_h, S_ct, S_bad, S_cn, S_ca, S_cb, S_cr, S_co, S_nm, S_li, S_lA, S_lB, S_lF, S_lc, S_ln, S_gc, S_gr, S_sn, S_cs, S_cc, S_md, c_pp, c_sr, c_sl, c_sf, c_sq, c_sp, c_bi, c_ba, c_bb, c_bf, C_pp, C_sr, C_sl, C_sf, C_sq, C_sp, C_bi, C_ba, C_bb, C_bf, m_pm, m_pp, m_mo, m_bA, m_bB, m_hh, m_jA, m_jB, m_jF, M_pm, M_pp, M_mo, M_bA, M_bB, M_hh, M_jA, M_jB, M_jF]
    · rw [va_up_n (by omega), hw.pl q hq]; simp [va_up, e, oP, oK, oL, s_lost, s_lane, s_w, s_h, s_ct, s_bad, s_cn, s_ca, s_cb, s_cr, s_co, s_nm, s_li, s_lA, s_lB, s_lF, s_lc, s_ln, s_gc, s_gr, s_sn, s_cs, s_cc, s_md, S_lost, S_lane, S_w, S_h, S_ct, S_bad, S_cn, S_ca, S_cb, S_cr, S_co, S_nm, S_li, S_lA, S_lB, S_lF, S_lc, S_ln, S_gc, S_gr, S_sn, S_cs, S_cc, S_md, c_pp, c_sr, c_sl, c_sf, c_sq, c_sp, c_bi, c_ba, c_bb, c_bf, C_pp, C_sr, C_sl, C_sf, C_sq, C_sp, C_bi, C_ba, C_bb, C_bf, m_pm, m_pp, m_mo, m_bA, m_bB, m_hh, m_jA, m_jB, m_jF, M_pm, M_pp, M_mo, M_bA, M_bB, M_hh, M_jA, M_jB, M_jF])
  · exact fun j hj => (va_up_n (by omega)).trans (hw.ct j hj)
  · exact fun j hj => (va_up_n (by omega)).trans (hw.kb j hj)
  · exact fun j hj => (va_up_n (by omega)).trans (hw.nm j hj)
  · exact fun j hj => (va_up_n (by omega)).trans (hw.lw j hj)
  · exact fun j hj => (va_up_n (by omega)).trans (hw.fr j hj)
theorem CW.set_pl {G : eG} {ad : Nat → Nat} {s : St} {z : Zc} {hm h : Nat → va_E} (hw : CW G ad s z hm h) (p : Nat) (b : Bool) (l w0 h0 : Nat) (hp : p < 6) : CW G ad (S_h (S_w (S_lane (S_lost s (va_up (s_lost s) p b)) (va_up (s_lane s) p l)) (va_up (s_w s) p w0)) (va_up (s_h s) p h0)) z hm (va_up h (10 + 2 * p) (.inr (2, [.int (b2i b), .int (nI l), .int (nI w0), .int (nI h0), .ref (ad (11 + 2 * p))]))) := by
  refine ⟨?_, ?_, ?_, ?_, ?_, ?_, ?_, ?_, ?_, ?_, ?_, ?_, ?_, ?_, ?_, ?_⟩
  · exact (va_up_n (by omega)).trans hw.h0
  · exact (va_up_n (by omega)).trans hw.h1
  · exact (va_up_n (by omega)).trans hw.h2
  · exact (va_up_n (by omega)).trans hw.h3
  · exact (va_up_n (by omega)).trans hw.h4
  · exact (va_up_n (by omega)).trans hw.h5
  · exact (va_up_n (by omega)).trans hw.h6
  · exact (va_up_n (by omega)).trans hw.h7
  · exact (va_up_n (by omega)).trans hw.h8
  · exact (va_up_n (by omega)).trans hw.h9
  · exact (by
    intro q hq
    by_cases e : q = p
    · subst e; rw [va_up_s]; simp [oP, va_up, s_lost, s_lane, s_w, s_h, s_ct, s_bad, s_cn, s_ca, s_cb, s_cr, s_co, s_nm, s_li, s_lA, s_lB, s_lF, s_lc, s_ln, s_gc, s_gr, s_sn, s_cs, s_cc, s_md, S_lost, S_lane, S_w, S_h, S_ct, S_bad, S_cn, S_ca, S_cb, S_cr, S_co, S_nm, S_li, S_lA, S_lB, S_lF, S_lc, S_ln, S_gc, S_gr, S_sn, S_cs, S_cc, S_md, c_pp, c_sr, c_sl, c_sf, c_sq, c_sp, c_bi, c_ba, c_bb, c_bf, C_pp, C_sr, C_sl, C_sf, C_sq, C_sp, C_bi, C_ba, C_bb, C_bf, m_pm, m_pp, m_mo, m_bA, m_bB, m_hh, m_jA, m_jB, m_jF, M_pm, M_pp, M_mo, M_bA, M_bB, M_hh, M_jA, M_jB, M_jF]
    · rw [va_up_n (by omega), hw.pl q hq]; simp [va_up, e, oP, oK, oL, s_lost, s_lane, s_w, s_h, s_ct, s_bad, s_cn, s_ca, s_cb, s_cr, s_co, s_nm, s_li, s_lA, s_lB, s_lF, s_lc, s_ln, s_gc, s_gr, s_sn, s_cs, s_cc, s_md, S_lost, S_lane, S_w, S_h, S_ct, S_bad, S_cn, S_ca, S_cb, S_cr, S_co, S_nm, S_li, S_lA, S_lB, S_lF, S_lc, S_ln, S_gc, S_gr, S_sn, S_cs, S_cc, S_md, c_pp, c_sr, c_sl, c_sf, c_sq, c_sp, c_bi, c_ba, c_bb, c_bf, C_pp, C_sr, C_sl, C_sf, C_sq, C_sp, C_bi, C_ba, C_bb, C_bf, m_pm, m_pp, m_mo, m_bA, m_bB, m_hh, m_jA, m_jB, m_jF, M_pm, M_pp, M_mo, M_bA, M_bB, M_hh, M_jA, M_jB, M_jF])
  · exact fun j hj => (va_up_n (by omega)).trans (hw.ct j hj)
  · exact fun j hj => (va_up_n (by omega)).trans (hw.kb j hj)
  · exact fun j hj => (va_up_n (by omega)).trans (hw.nm j hj)
  · exact fun j hj => (va_up_n (by omega)).trans (hw.lw j hj)
  · exact fun j hj => (va_up_n (by omega)).trans (hw.fr j hj)
theorem CW.set_ct {G : eG} {ad : Nat → Nat} {s : St} {z : Zc} {hm h : Nat → va_E} (hw : CW G ad s z hm h) (p : Nat) (f : Nat → Int32) (hp : p < 6) : CW G ad (S_ct s (va_up (s_ct s) p f)) z hm (va_up h (11 + 2 * p) (.inl (G.2.2 0, 400, .inl f))) := by
  refine ⟨?_, ?_, ?_, ?_, ?_, ?_, ?_, ?_, ?_, ?_, ?_, ?_, ?_, ?_, ?_, ?_⟩
  · exact (va_up_n (by omega)).trans hw.h0
  · exact (va_up_n (by omega)).trans hw.h1
  · exact (va_up_n (by omega)).trans hw.h2
  · exact (va_up_n (by omega)).trans hw.h3
  · exact (va_up_n (by omega)).trans hw.h4
  · exact (va_up_n (by omega)).trans hw.h5
  · exact (va_up_n (by omega)).trans hw.h6
  · exact (va_up_n (by omega)).trans hw.h7
  · exact (va_up_n (by omega)).trans hw.h8
  · exact (va_up_n (by omega)).trans hw.h9
  · exact fun j hj => (va_up_n (by omega)).trans (hw.pl j hj)
  · exact (by
    intro q hq
    by_cases e : q = p
    · subst e; rw [va_up_s]; simp [va_up, s_lost, s_lane, s_w, s_h, s_ct, s_bad, s_cn, s_ca, s_cb, s_cr, s_co, s_nm, s_li, s_lA, s_lB, s_lF, s_lc, s_ln, s_gc, s_gr, s_sn, s_cs, s_cc, s_md, S_lost, S_lane, S_w, S_h, S_ct, S_bad, S_cn, S_ca, S_cb, S_cr, S_co, S_nm, S_li, S_lA, S_lB, S_lF, S_lc, S_ln, S_gc, S_gr, S_sn, S_cs, S_cc, S_md, c_pp, c_sr, c_sl, c_sf, c_sq, c_sp, c_bi, c_ba, c_bb, c_bf, C_pp, C_sr, C_sl, C_sf, C_sq, C_sp, C_bi, C_ba, C_bb, C_bf, m_pm, m_pp, m_mo, m_bA, m_bB, m_hh, m_jA, m_jB, m_jF, M_pm, M_pp, M_mo, M_bA, M_bB, M_hh, M_jA, M_jB, M_jF]
    · rw [va_up_n (by omega), hw.ct q hq]; simp [va_up, e, oP, oK, oL, s_lost, s_lane, s_w, s_h, s_ct, s_bad, s_cn, s_ca, s_cb, s_cr, s_co, s_nm, s_li, s_lA, s_lB, s_lF, s_lc, s_ln, s_gc, s_gr, s_sn, s_cs, s_cc, s_md, S_lost, S_lane, S_w, S_h, S_ct, S_bad, S_cn, S_ca, S_cb, S_cr, S_co, S_nm, S_li, S_lA, S_lB, S_lF, S_lc, S_ln, S_gc, S_gr, S_sn, S_cs, S_cc, S_md, c_pp, c_sr, c_sl, c_sf, c_sq, c_sp, c_bi, c_ba, c_bb, c_bf, C_pp, C_sr, C_sl, C_sf, C_sq, C_sp, C_bi, C_ba, C_bb, C_bf, m_pm, m_pp, m_mo, m_bA, m_bB, m_hh, m_jA, m_jB, m_jF, M_pm, M_pp, M_mo, M_bA, M_bB, M_hh, M_jA, M_jB, M_jF])
  · exact fun j hj => (va_up_n (by omega)).trans (hw.kb j hj)
  · exact fun j hj => (va_up_n (by omega)).trans (hw.nm j hj)
  · exact fun j hj => (va_up_n (by omega)).trans (hw.lw j hj)
  · exact fun j hj => (va_up_n (by omega)).trans (hw.fr j hj)
theorem CW.set_kb {G : eG} {ad : Nat → Nat} {s : St} {z : Zc} {hm h : Nat → va_E} (hw : CW G ad s z hm h) (p : Nat) (a b r k : Nat) (hp : p < 4) : CW G ad (S_co (S_cr (S_cb (S_ca s (va_up (s_ca s) p a)) (va_up (s_cb s) p b)) (va_up (s_cr s) p r)) (va_up (s_co s) p k)) z hm (va_up h (22 + 3 * p) (.inr (0, [.int (nI a), .int (nI b), .int (nI r), .int (nI k), .ref (ad (23 + 3 * p)), .ref (ad (24 + 3 * p))]))) := by
  refine ⟨?_, ?_, ?_, ?_, ?_, ?_, ?_, ?_, ?_, ?_, ?_, ?_, ?_, ?_, ?_, ?_⟩
  · exact (va_up_n (by omega)).trans hw.h0
  · exact (va_up_n (by omega)).trans hw.h1
  · exact (va_up_n (by omega)).trans hw.h2
  · exact (va_up_n (by omega)).trans hw.h3
  · exact (va_up_n (by omega)).trans hw.h4
  · exact (va_up_n (by omega)).trans hw.h5
  · exact (va_up_n (by omega)).trans hw.h6
  · exact (va_up_n (by omega)).trans hw.h7
  · exact (va_up_n (by omega)).trans hw.h8
  · exact (va_up_n (by omega)).trans hw.h9
  · exact fun j hj => (va_up_n (by omega)).trans (hw.pl j hj)
  · exact fun j hj => (va_up_n (by omega)).trans (hw.ct j hj)
  · exact (by
    intro q hq
    by_cases e : q = p
    · subst e; rw [va_up_s]; simp [oK, va_up, s_lost, s_lane, s_w, s_h, s_ct, s_bad, s_cn, s_ca, s_cb, s_cr, s_co, s_nm, s_li, s_lA, s_lB, s_lF, s_lc, s_ln, s_gc, s_gr, s_sn, s_cs, s_cc, s_md, S_lost, S_lane, S_w, S_h, S_ct, S_bad, S_cn, S_ca, S_cb, S_cr, S_co, S_nm, S_li, S_lA, S_lB, S_lF, S_lc, S_ln, S_gc, S_gr, S_sn, S_cs, S_cc, S_md, c_pp, c_sr, c_sl, c_sf, c_sq, c_sp, c_bi, c_ba, c_bb, c_bf, C_pp, C_sr, C_sl, C_sf, C_sq, C_sp, C_bi, C_ba, C_bb, C_bf, m_pm, m_pp, m_mo, m_bA, m_bB, m_hh, m_jA, m_jB, m_jF, M_pm, M_pp, M_mo, M_bA, M_bB, M_hh, M_jA, M_jB, M_jF]
    · rw [va_up_n (by omega), hw.kb q hq]; simp [va_up, e, oP, oK, oL, s_lost, s_lane, s_w, s_h, s_ct, s_bad, s_cn, s_ca, s_cb, s_cr, s_co, s_nm, s_li, s_lA, s_lB, s_lF, s_lc, s_ln, s_gc, s_gr, s_sn, s_cs, s_cc, s_md, S_lost, S_lane, S_w, S_h, S_ct, S_bad, S_cn, S_ca, S_cb, S_cr, S_co, S_nm, S_li, S_lA, S_lB, S_lF, S_lc, S_ln, S_gc, S_gr, S_sn, S_cs, S_cc, S_md, c_pp, c_sr, c_sl, c_sf, c_sq, c_sp, c_bi, c_ba, c_bb, c_bf, C_pp, C_sr, C_sl, C_sf, C_sq, C_sp, C_bi, C_ba, C_bb, C_bf, m_pm, m_pp, m_mo, m_bA, m_bB, m_hh, m_jA, m_jB, m_jF, M_pm, M_pp, M_mo, M_bA, M_bB, M_hh, M_jA, M_jB, M_jF])
  · exact fun j hj => (va_up_n (by omega)).trans (hw.nm j hj)
  · exact fun j hj => (va_up_n (by omega)).trans (hw.lw j hj)
  · exact fun j hj => (va_up_n (by omega)).trans (hw.fr j hj)
theorem CW.set_nm {G : eG} {ad : Nat → Nat} {s : St} {z : Zc} {hm h : Nat → va_E} (hw : CW G ad s z hm h) (p : Nat) (f : Nat → Nat) (hp : p < 4) : CW G ad (S_nm s (va_up (s_nm s) p f)) z hm (va_up h (23 + 3 * p) (.inl (G.2.2 1, 20, .inr (.inl (fun x => lN (f x)))))) := by
  refine ⟨?_, ?_, ?_, ?_, ?_, ?_, ?_, ?_, ?_, ?_, ?_, ?_, ?_, ?_, ?_, ?_⟩
  · exact (va_up_n (by omega)).trans hw.h0
  · exact (va_up_n (by omega)).trans hw.h1
  · exact (va_up_n (by omega)).trans hw.h2
  · exact (va_up_n (by omega)).trans hw.h3
  · exact (va_up_n (by omega)).trans hw.h4
  · exact (va_up_n (by omega)).trans hw.h5
  · exact (va_up_n (by omega)).trans hw.h6
  · exact (va_up_n (by omega)).trans hw.h7
  · exact (va_up_n (by omega)).trans hw.h8
  · exact (va_up_n (by omega)).trans hw.h9
  · exact fun j hj => (va_up_n (by omega)).trans (hw.pl j hj)
  · exact fun j hj => (va_up_n (by omega)).trans (hw.ct j hj)
  · exact fun j hj => (va_up_n (by omega)).trans (hw.kb j hj)
  · exact (by
    intro q hq
    by_cases e : q = p
    · subst e; rw [va_up_s]; simp [va_up, s_lost, s_lane, s_w, s_h, s_ct, s_bad, s_cn, s_ca, s_cb, s_cr, s_co, s_nm, s_li, s_lA, s_lB, s_lF, s_lc, s_ln, s_gc, s_gr, s_sn, s_cs, s_cc, s_md, S_lost, S_lane, S_w, S_h, S_ct, S_bad, S_cn, S_ca, S_cb, S_cr, S_co, S_nm, S_li, S_lA, S_lB, S_lF, S_lc, S_ln, S_gc, S_gr, S_sn, S_cs, S_cc, S_md, c_pp, c_sr, c_sl, c_sf, c_sq, c_sp, c_bi, c_ba, c_bb, c_bf, C_pp, C_sr, C_sl, C_sf, C_sq, C_sp, C_bi, C_ba, C_bb, C_bf, m_pm, m_pp, m_mo, m_bA, m_bB, m_hh, m_jA, m_jB, m_jF, M_pm, M_pp, M_mo, M_bA, M_bB, M_hh, M_jA, M_jB, M_jF]
    · rw [va_up_n (by omega), hw.nm q hq]; simp [va_up, e, oP, oK, oL, s_lost, s_lane, s_w, s_h, s_ct, s_bad, s_cn, s_ca, s_cb, s_cr, s_co, s_nm, s_li, s_lA, s_lB, s_lF, s_lc, s_ln, s_gc, s_gr, s_sn, s_cs, s_cc, s_md, S_lost, S_lane, S_w, S_h, S_ct, S_bad, S_cn, S_ca, S_cb, S_cr, S_co, S_nm, S_li, S_lA, S_lB, S_lF, S_lc, S_ln, S_gc, S_gr, S_sn, S_cs, S_cc, S_md, c_pp, c_sr, c_sl, c_sf, c_sq, c_sp, c_bi, c_ba, c_bb, c_bf, C_pp, C_sr, C_sl, C_sf, C_sq, C_sp, C_bi, C_ba, C_bb, C_bf, m_pm, m_pp, m_mo, m_bA, m_bB, m_hh, m_jA, m_jB, m_jF, M_pm, M_pp, M_mo, M_bA, M_bB, M_hh, M_jA, M_jB, M_jF])
  · exact fun j hj => (va_up_n (by omega)).trans (hw.lw j hj)
  · exact fun j hj => (va_up_n (by omega)).trans (hw.fr j hj)
theorem CW.set_lw {G : eG} {ad : Nat → Nat} {s : St} {z : Zc} {hm h : Nat → va_E} (hw : CW G ad s z hm h) (p : Nat) (b : Bool) (a1 a2 a3 : Int32) (hp : p < 4) : CW G ad (S_lF (S_lB (S_lA (S_li s (va_up (s_li s) p b)) (va_up (s_lA s) p a1)) (va_up (s_lB s) p a2)) (va_up (s_lF s) p a3)) z hm (va_up h (24 + 3 * p) (.inr (1, [.int (b2i b), .int a1, .int a2, .int a3]))) := by
  refine ⟨?_, ?_, ?_, ?_, ?_, ?_, ?_, ?_, ?_, ?_, ?_, ?_, ?_, ?_, ?_, ?_⟩
  · exact (va_up_n (by omega)).trans hw.h0
  · exact (va_up_n (by omega)).trans hw.h1
  · exact (va_up_n (by omega)).trans hw.h2
  · exact (va_up_n (by omega)).trans hw.h3
  · exact (va_up_n (by omega)).trans hw.h4
  · exact (va_up_n (by omega)).trans hw.h5
  · exact (va_up_n (by omega)).trans hw.h6
  · exact (va_up_n (by omega)).trans hw.h7
  · exact (va_up_n (by omega)).trans hw.h8
  · exact (va_up_n (by omega)).trans hw.h9
  · exact fun j hj => (va_up_n (by omega)).trans (hw.pl j hj)
  · exact fun j hj => (va_up_n (by omega)).trans (hw.ct j hj)
  · exact fun j hj => (va_up_n (by omega)).trans (hw.kb j hj)
  · exact fun j hj => (va_up_n (by omega)).trans (hw.nm j hj)
  · exact (by
    intro q hq
    by_cases e : q = p
    · subst e; rw [va_up_s]; simp [oL, va_up, s_lost, s_lane, s_w, s_h, s_ct, s_bad, s_cn, s_ca, s_cb, s_cr, s_co, s_nm, s_li, s_lA, s_lB, s_lF, s_lc, s_ln, s_gc, s_gr, s_sn, s_cs, s_cc, s_md, S_lost, S_lane, S_w, S_h, S_ct, S_bad, S_cn, S_ca, S_cb, S_cr, S_co, S_nm, S_li, S_lA, S_lB, S_lF, S_lc, S_ln, S_gc, S_gr, S_sn, S_cs, S_cc, S_md, c_pp, c_sr, c_sl, c_sf, c_sq, c_sp, c_bi, c_ba, c_bb, c_bf, C_pp, C_sr, C_sl, C_sf, C_sq, C_sp, C_bi, C_ba, C_bb, C_bf, m_pm, m_pp, m_mo, m_bA, m_bB, m_hh, m_jA, m_jB, m_jF, M_pm, M_pp, M_mo, M_bA, M_bB, M_hh, M_jA, M_jB, M_jF]
    · rw [va_up_n (by omega), hw.lw q hq]; simp [va_up, e, oP, oK, oL, s_lost, s_lane, s_w, s_h, s_ct, s_bad, s_cn, s_ca, s_cb, s_cr, s_co, s_nm, s_li, s_lA, s_lB, s_lF, s_lc, s_ln, s_gc, s_gr, s_sn, s_cs, s_cc, s_md, S_lost, S_lane, S_w, S_h, S_ct, S_bad, S_cn, S_ca, S_cb, S_cr, S_co, S_nm, S_li, S_lA, S_lB, S_lF, S_lc, S_ln, S_gc, S_gr, S_sn, S_cs, S_cc, S_md, c_pp, c_sr, c_sl, c_sf, c_sq, c_sp, c_bi, c_ba, c_bb, c_bf, C_pp, C_sr, C_sl, C_sf, C_sq, C_sp, C_bi, C_ba, C_bb, C_bf, m_pm, m_pp, m_mo, m_bA, m_bB, m_hh, m_jA, m_jB, m_jF, M_pm, M_pp, M_mo, M_bA, M_bB, M_hh, M_jA, M_jB, M_jF])
  · exact fun j hj => (va_up_n (by omega)).trans (hw.fr j hj)
def oM (ad : Nat → Nat) (s : St) (z : Zm) : va_E := .inr (5, [.ref (ad 35), .ref (ad 36), .ref (ad 37), .ref (ad 38), .ref (ad 39), .ref (ad 40), .int (nI (s_cn s)), .ref (ad 41), .ref (ad 42), .ref (ad 43), .ref (ad 44), .ref (ad 45), .ref (ad 46), .ref (ad 47), .ref (ad 48), .ref (ad 49), .int (nI (s_lc s)), .ref (ad 50), .int (nI (s_md s)), .int (nI (s_gc s)), .ref (ad 51), .int (s_sn s), .int (s_cs s), .ref (ad 52), .int (m_pm z), .ref (ad 53), .int (m_mo z), .long (m_bA z), .long (m_bB z), .long (m_hh z)])
def MW (G : eG) (ad : Nat → Nat) (s : St) (z : Zm) (hm h : Nat → va_E) : Prop :=
  (h 34 = oM ad s z) ∧
  (h 35 = .inl (G.2.2 2, 6, .inl (fun i => b2i (!(s_lost s i))))) ∧
  (h 36 = .inl (G.2.2 0, 6, .inl (fun i => nI (s_lane s i)))) ∧
  (h 37 = .inl (G.2.2 0, 6, .inl (fun i => nI (s_w s i)))) ∧
  (h 38 = .inl (G.2.2 0, 6, .inl (fun i => nI (s_h s i)))) ∧
  (h 39 = .inl (G.2.2 0, 2400, .inl (fun i => s_ct s (i / 400) (i % 400)))) ∧
  (h 40 = .inl (G.2.2 2, 400, .inl (fun i => b2i (s_bad s i)))) ∧
  (h 41 = .inl (G.2.2 0, 4, .inl (fun i => nI (s_ca s i)))) ∧
  (h 42 = .inl (G.2.2 0, 4, .inl (fun i => nI (s_cb s i)))) ∧
  (h 43 = .inl (G.2.2 0, 4, .inl (fun i => nI (s_cr s i)))) ∧
  (h 44 = .inl (G.2.2 0, 4, .inl (fun i => nI (s_co s i)))) ∧
  (h 45 = .inl (G.2.2 1, 80, .inr (.inl (fun i => lN (s_nm s (i / 20) (i % 20)))))) ∧
  (h 46 = .inl (G.2.2 2, 4, .inl (fun i => b2i (s_li s i)))) ∧
  (h 47 = .inl (G.2.2 0, 4, .inl (m_jA z))) ∧
  (h 48 = .inl (G.2.2 0, 4, .inl (m_jB z))) ∧
  (h 49 = .inl (G.2.2 0, 4, .inl (m_jF z))) ∧
  (h 50 = .inl (G.2.2 0, 12, .inl (s_ln s))) ∧
  (h 51 = .inl (G.2.2 1, 60, .inr (.inl (s_gr s)))) ∧
  (h 52 = .inl (G.2.2 0, 6, .inl (s_cc s))) ∧
  (h 53 = .inl (G.2.2 0, 20, .inl (m_pp z))) ∧
  (∀ c : Nat, c < 4 → s_li s c = true → m_jA z c = s_lA s c ∧ m_jB z c = s_lB s c ∧ m_jF z c = s_lF s c) ∧
  (∀ k : Nat, k < 34 → h k = hm k)
theorem MW.h34 {G : eG} {ad : Nat → Nat} {s : St} {z : Zm} {hm h : Nat → va_E} (hw : MW G ad s z hm h) : h 34 = oM ad s z := hw.1
theorem MW.h35 {G : eG} {ad : Nat → Nat} {s : St} {z : Zm} {hm h : Nat → va_E} (hw : MW G ad s z hm h) : h 35 = .inl (G.2.2 2, 6, .inl (fun i => b2i (!(s_lost s i)))) := hw.2.1
theorem MW.h36 {G : eG} {ad : Nat → Nat} {s : St} {z : Zm} {hm h : Nat → va_E} (hw : MW G ad s z hm h) : h 36 = .inl (G.2.2 0, 6, .inl (fun i => nI (s_lane s i))) := hw.2.2.1
theorem MW.h37 {G : eG} {ad : Nat → Nat} {s : St} {z : Zm} {hm h : Nat → va_E} (hw : MW G ad s z hm h) : h 37 = .inl (G.2.2 0, 6, .inl (fun i => nI (s_w s i))) := hw.2.2.2.1
theorem MW.h38 {G : eG} {ad : Nat → Nat} {s : St} {z : Zm} {hm h : Nat → va_E} (hw : MW G ad s z hm h) : h 38 = .inl (G.2.2 0, 6, .inl (fun i => nI (s_h s i))) := hw.2.2.2.2.1
theorem MW.h39 {G : eG} {ad : Nat → Nat} {s : St} {z : Zm} {hm h : Nat → va_E} (hw : MW G ad s z hm h) : h 39 = .inl (G.2.2 0, 2400, .inl (fun i => s_ct s (i / 400) (i % 400))) := hw.2.2.2.2.2.1
theorem MW.h40 {G : eG} {ad : Nat → Nat} {s : St} {z : Zm} {hm h : Nat → va_E} (hw : MW G ad s z hm h) : h 40 = .inl (G.2.2 2, 400, .inl (fun i => b2i (s_bad s i))) := hw.2.2.2.2.2.2.1
theorem MW.h41 {G : eG} {ad : Nat → Nat} {s : St} {z : Zm} {hm h : Nat → va_E} (hw : MW G ad s z hm h) : h 41 = .inl (G.2.2 0, 4, .inl (fun i => nI (s_ca s i))) := hw.2.2.2.2.2.2.2.1
theorem MW.h42 {G : eG} {ad : Nat → Nat} {s : St} {z : Zm} {hm h : Nat → va_E} (hw : MW G ad s z hm h) : h 42 = .inl (G.2.2 0, 4, .inl (fun i => nI (s_cb s i))) := hw.2.2.2.2.2.2.2.2.1
theorem MW.h43 {G : eG} {ad : Nat → Nat} {s : St} {z : Zm} {hm h : Nat → va_E} (hw : MW G ad s z hm h) : h 43 = .inl (G.2.2 0, 4, .inl (fun i => nI (s_cr s i))) := hw.2.2.2.2.2.2.2.2.2.1
theorem MW.h44 {G : eG} {ad : Nat → Nat} {s : St} {z : Zm} {hm h : Nat → va_E} (hw : MW G ad s z hm h) : h 44 = .inl (G.2.2 0, 4, .inl (fun i => nI (s_co s i))) := hw.2.2.2.2.2.2.2.2.2.2.1
theorem MW.h45 {G : eG} {ad : Nat → Nat} {s : St} {z : Zm} {hm h : Nat → va_E} (hw : MW G ad s z hm h) : h 45 = .inl (G.2.2 1, 80, .inr (.inl (fun i => lN (s_nm s (i / 20) (i % 20))))) := hw.2.2.2.2.2.2.2.2.2.2.2.1
theorem MW.h46 {G : eG} {ad : Nat → Nat} {s : St} {z : Zm} {hm h : Nat → va_E} (hw : MW G ad s z hm h) : h 46 = .inl (G.2.2 2, 4, .inl (fun i => b2i (s_li s i))) := hw.2.2.2.2.2.2.2.2.2.2.2.2.1
theorem MW.h47 {G : eG} {ad : Nat → Nat} {s : St} {z : Zm} {hm h : Nat → va_E} (hw : MW G ad s z hm h) : h 47 = .inl (G.2.2 0, 4, .inl (m_jA z)) := hw.2.2.2.2.2.2.2.2.2.2.2.2.2.1
theorem MW.h48 {G : eG} {ad : Nat → Nat} {s : St} {z : Zm} {hm h : Nat → va_E} (hw : MW G ad s z hm h) : h 48 = .inl (G.2.2 0, 4, .inl (m_jB z)) := hw.2.2.2.2.2.2.2.2.2.2.2.2.2.2.1
theorem MW.h49 {G : eG} {ad : Nat → Nat} {s : St} {z : Zm} {hm h : Nat → va_E} (hw : MW G ad s z hm h) : h 49 = .inl (G.2.2 0, 4, .inl (m_jF z)) := hw.2.2.2.2.2.2.2.2.2.2.2.2.2.2.2.1
theorem MW.h50 {G : eG} {ad : Nat → Nat} {s : St} {z : Zm} {hm h : Nat → va_E} (hw : MW G ad s z hm h) : h 50 = .inl (G.2.2 0, 12, .inl (s_ln s)) := hw.2.2.2.2.2.2.2.2.2.2.2.2.2.2.2.2.1
theorem MW.h51 {G : eG} {ad : Nat → Nat} {s : St} {z : Zm} {hm h : Nat → va_E} (hw : MW G ad s z hm h) : h 51 = .inl (G.2.2 1, 60, .inr (.inl (s_gr s))) := hw.2.2.2.2.2.2.2.2.2.2.2.2.2.2.2.2.2.1
theorem MW.h52 {G : eG} {ad : Nat → Nat} {s : St} {z : Zm} {hm h : Nat → va_E} (hw : MW G ad s z hm h) : h 52 = .inl (G.2.2 0, 6, .inl (s_cc s)) := hw.2.2.2.2.2.2.2.2.2.2.2.2.2.2.2.2.2.2.1
theorem MW.h53 {G : eG} {ad : Nat → Nat} {s : St} {z : Zm} {hm h : Nat → va_E} (hw : MW G ad s z hm h) : h 53 = .inl (G.2.2 0, 20, .inl (m_pp z)) := hw.2.2.2.2.2.2.2.2.2.2.2.2.2.2.2.2.2.2.2.1
theorem MW.jk {G : eG} {ad : Nat → Nat} {s : St} {z : Zm} {hm h : Nat → va_E} (hw : MW G ad s z hm h) : ∀ c : Nat, c < 4 → s_li s c = true → m_jA z c = s_lA s c ∧ m_jB z c = s_lB s c ∧ m_jF z c = s_lF s c := hw.2.2.2.2.2.2.2.2.2.2.2.2.2.2.2.2.2.2.2.2.1
theorem MW.fr {G : eG} {ad : Nat → Nat} {s : St} {z : Zm} {hm h : Nat → va_E} (hw : MW G ad s z hm h) : ∀ k : Nat, k < 34 → h k = hm k := hw.2.2.2.2.2.2.2.2.2.2.2.2.2.2.2.2.2.2.2.2.2
theorem MW.set_cn {G : eG} {ad : Nat → Nat} {s : St} {z : Zm} {hm h : Nat → va_E} (hw : MW G ad s z hm h) (v : Nat)  : MW G ad (S_cn s v) z hm (va_up h 34 (oM ad (S_cn s v) z)) := by
  refine ⟨?_, ?_, ?_, ?_, ?_, ?_, ?_, ?_, ?_, ?_, ?_, ?_, ?_, ?_, ?_, ?_, ?_, ?_, ?_, ?_, ?_, ?_⟩
  · exact va_up_s
  · exact (va_up_n (by omega)).trans hw.h35
  · exact (va_up_n (by omega)).trans hw.h36
  · exact (va_up_n (by omega)).trans hw.h37
  · exact (va_up_n (by omega)).trans hw.h38
  · exact (va_up_n (by omega)).trans hw.h39
  · exact (va_up_n (by omega)).trans hw.h40
  · exact (va_up_n (by omega)).trans hw.h41
  · exact (va_up_n (by omega)).trans hw.h42
  · exact (va_up_n (by omega)).trans hw.h43
  · exact (va_up_n (by omega)).trans hw.h44
  · exact (va_up_n (by omega)).trans hw.h45
  · exact (va_up_n (by omega)).trans hw.h46
  · exact (va_up_n (by omega)).trans hw.h47
  · exact (va_up_n (by omega)).trans hw.h48
  · exact (va_up_n (by omega)).trans hw.h49
  · exact (va_up_n (by omega)).trans hw.h50
  · exact (va_up_n (by omega)).trans hw.h51
  · exact (va_up_n (by omega)).trans hw.h52
  · exact (va_up_n (by omega)).trans hw.h53
  · exact hw.jk
  · exact fun j hj => (va_up_n (by omega)).trans (hw.fr j hj)
theorem MW.set_lc {G : eG} {ad : Nat → Nat} {s : St} {z : Zm} {hm h : Nat → va_E} (hw : MW G ad s z hm h) (v : Nat)  : MW G ad (S_lc s v) z hm (va_up h 34 (oM ad (S_lc s v) z)) := by
  refine ⟨?_, ?_, ?_, ?_, ?_, ?_, ?_, ?_, ?_, ?_, ?_, ?_, ?_, ?_, ?_, ?_, ?_, ?_, ?_, ?_, ?_, ?_⟩
  · exact va_up_s
  · exact (va_up_n (by omega)).trans hw.h35
  · exact (va_up_n (by omega)).trans hw.h36
  · exact (va_up_n (by omega)).trans hw.h37
  · exact (va_up_n (by omega)).trans hw.h38
  · exact (va_up_n (by omega)).trans hw.h39
  · exact (va_up_n (by omega)).trans hw.h40
  · exact (va_up_n (by omega)).trans hw.h41
  · exact (va_up_n (by omega)).trans hw.h42
  · exact (va_up_n (by omega)).trans hw.h43
  · exact (va_up_n (by omega)).trans hw.h44
  · exact (va_up_n (by omega)).trans hw.h45
  · exact (va_up_n (by omega)).trans hw.h46
  · exact (va_up_n (by omega)).trans hw.h47
  · exact (va_up_n (by omega)).trans hw.h48
  · exact (va_up_n (by omega)).trans hw.h49
  · exact (va_up_n (by omega)).trans hw.h50
  · exact (va_up_n (by omega)).trans hw.h51
  · exact (va_up_n (by omega)).trans hw.h52
  · exact (va_up_n (by omega)).trans hw.h53
  · exact hw.jk
  · exact fun j hj => (va_up_n (by omega)).trans (hw.fr j hj)
theorem MW.set_gc {G : eG} {ad : Nat → Nat} {s : St} {z : Zm} {hm h : Nat → va_E} (hw : MW G ad s z hm h) (v : Nat)  : MW G ad (S_gc s v) z hm (va_up h 34 (oM ad (S_gc s v) z)) := by
  refine ⟨?_, ?_, ?_, ?_, ?_, ?_, ?_, ?_, ?_, ?_, ?_, ?_, ?_, ?_, ?_, ?_, ?_, ?_, ?_, ?_, ?_, ?_⟩
  · exact va_up_s
  · exact (va_up_n (by omega)).trans hw.h35
  · exact (va_up_n (by omega)).trans hw.h36
  · exact (va_up_n (by omega)).trans hw.h37
  · exact (va_up_n (by omega)).trans hw.h38
  · exact (va_up_n (by omega)).trans hw.h39
  · exact (va_up_n (by omega)).trans hw.h40
  · exact (va_up_n (by omega)).trans hw.h41
  · exact (va_up_n (by omega)).trans hw.h42
  · exact (va_up_n (by omega)).trans hw.h43
  · exact (va_up_n (by omega)).trans hw.h44
  · exact (va_up_n (by omega)).trans hw.h45
  · exact (va_up_n (by omega)).trans hw.h46
  · exact (va_up_n (by omega)).trans hw.h47
  · exact (va_up_n (by omega)).trans hw.h48
  · exact (va_up_n (by omega)).trans hw.h49
  · exact (va_up_n (by omega)).trans hw.h50
  · exact (va_up_n (by omega)).trans hw.h51
  · exact (va_up_n (by omega)).trans hw.h52
  · exact (va_up_n (by omega)).trans hw.h53
  · exact hw.jk
  · exact fun j hj => (va_up_n (by omega)).trans (hw.fr j hj)
theorem MW.set_sn {G : eG} {ad : Nat → Nat} {s : St} {z : Zm} {hm h : Nat → va_E} (hw : MW G ad s z hm h) (v : Int32)  : MW G ad (S_sn s v) z hm (va_up h 34 (oM ad (S_sn s v) z)) := by
  refine ⟨?_, ?_, ?_, ?_, ?_, ?_, ?_, ?_, ?_, ?_, ?_, ?_, ?_, ?_, ?_, ?_, ?_, ?_, ?_, ?_, ?_, ?_⟩
  · exact va_up_s
  · exact (va_up_n (by omega)).trans hw.h35
  · exact (va_up_n (by omega)).trans hw.h36
  · exact (va_up_n (by omega)).trans hw.h37
  · exact (va_up_n (by omega)).trans hw.h38
  · exact (va_up_n (by omega)).trans hw.h39
  · exact (va_up_n (by omega)).trans hw.h40
  · exact (va_up_n (by omega)).trans hw.h41
  · exact (va_up_n (by omega)).trans hw.h42
  · exact (va_up_n (by omega)).trans hw.h43
  · exact (va_up_n (by omega)).trans hw.h44
  · exact (va_up_n (by omega)).trans hw.h45
  · exact (va_up_n (by omega)).trans hw.h46
  · exact (va_up_n (by omega)).trans hw.h47
  · exact (va_up_n (by omega)).trans hw.h48
  · exact (va_up_n (by omega)).trans hw.h49
  · exact (va_up_n (by omega)).trans hw.h50
  · exact (va_up_n (by omega)).trans hw.h51
  · exact (va_up_n (by omega)).trans hw.h52
  · exact (va_up_n (by omega)).trans hw.h53
  · exact hw.jk
  · exact fun j hj => (va_up_n (by omega)).trans (hw.fr j hj)
theorem MW.set_cs {G : eG} {ad : Nat → Nat} {s : St} {z : Zm} {hm h : Nat → va_E} (hw : MW G ad s z hm h) (v : Int32)  : MW G ad (S_cs s v) z hm (va_up h 34 (oM ad (S_cs s v) z)) := by
  refine ⟨?_, ?_, ?_, ?_, ?_, ?_, ?_, ?_, ?_, ?_, ?_, ?_, ?_, ?_, ?_, ?_, ?_, ?_, ?_, ?_, ?_, ?_⟩
  · exact va_up_s
  · exact (va_up_n (by omega)).trans hw.h35
  · exact (va_up_n (by omega)).trans hw.h36
  · exact (va_up_n (by omega)).trans hw.h37
  · exact (va_up_n (by omega)).trans hw.h38
  · exact (va_up_n (by omega)).trans hw.h39
  · exact (va_up_n (by omega)).trans hw.h40
  · exact (va_up_n (by omega)).trans hw.h41
  · exact (va_up_n (by omega)).trans hw.h42
  · exact (va_up_n (by omega)).trans hw.h43
  · exact (va_up_n (by omega)).trans hw.h44
  · exact (va_up_n (by omega)).trans hw.h45
  · exact (va_up_n (by omega)).trans hw.h46
  · exact (va_up_n (by omega)).trans hw.h47
  · exact (va_up_n (by omega)).trans hw.h48
  · exact (va_up_n (by omega)).trans hw.h49
  · exact (va_up_n (by omega)).trans hw.h50
  · exact (va_up_n (by omega)).trans hw.h51
  · exact (va_up_n (by omega)).trans hw.h52
  · exact (va_up_n (by omega)).trans hw.h53
  · exact hw.jk
  · exact fun j hj => (va_up_n (by omega)).trans (hw.fr j hj)
theorem MW.set_md {G : eG} {ad : Nat → Nat} {s : St} {z : Zm} {hm h : Nat → va_E} (hw : MW G ad s z hm h) (v : Nat)  : MW G ad (S_md s v) z hm (va_up h 34 (oM ad (S_md s v) z)) := by
  refine ⟨?_, ?_, ?_, ?_, ?_, ?_, ?_, ?_, ?_, ?_, ?_, ?_, ?_, ?_, ?_, ?_, ?_, ?_, ?_, ?_, ?_, ?_⟩
  · exact va_up_s
  · exact (va_up_n (by omega)).trans hw.h35
  · exact (va_up_n (by omega)).trans hw.h36
  · exact (va_up_n (by omega)).trans hw.h37
  · exact (va_up_n (by omega)).trans hw.h38
  · exact (va_up_n (by omega)).trans hw.h39
  · exact (va_up_n (by omega)).trans hw.h40
  · exact (va_up_n (by omega)).trans hw.h41
  · exact (va_up_n (by omega)).trans hw.h42
  · exact (va_up_n (by omega)).trans hw.h43
  · exact (va_up_n (by omega)).trans hw.h44
  · exact (va_up_n (by omega)).trans hw.h45
  · exact (va_up_n (by omega)).trans hw.h46
  · exact (va_up_n (by omega)).trans hw.h47
  · exact (va_up_n (by omega)).trans hw.h48
  · exact (va_up_n (by omega)).trans hw.h49
  · exact (va_up_n (by omega)).trans hw.h50
  · exact (va_up_n (by omega)).trans hw.h51
  · exact (va_up_n (by omega)).trans hw.h52
  · exact (va_up_n (by omega)).trans hw.h53
  · exact hw.jk
  · exact fun j hj => (va_up_n (by omega)).trans (hw.fr j hj)
theorem MW.set_pm {G : eG} {ad : Nat → Nat} {s : St} {z : Zm} {hm h : Nat → va_E} (hw : MW G ad s z hm h) (v : Int32)  : MW G ad s (M_pm z v) hm (va_up h 34 (oM ad s (M_pm z v))) := by
  refine ⟨?_, ?_, ?_, ?_, ?_, ?_, ?_, ?_, ?_, ?_, ?_, ?_, ?_, ?_, ?_, ?_, ?_, ?_, ?_, ?_, ?_, ?_⟩
  · exact va_up_s
  · exact (va_up_n (by omega)).trans hw.h35
  · exact (va_up_n (by omega)).trans hw.h36
  · exact (va_up_n (by omega)).trans hw.h37
  · exact (va_up_n (by omega)).trans hw.h38
  · exact (va_up_n (by omega)).trans hw.h39
  · exact (va_up_n (by omega)).trans hw.h40
  · exact (va_up_n (by omega)).trans hw.h41
  · exact (va_up_n (by omega)).trans hw.h42
  · exact (va_up_n (by omega)).trans hw.h43
  · exact (va_up_n (by omega)).trans hw.h44
  · exact (va_up_n (by omega)).trans hw.h45
  · exact (va_up_n (by omega)).trans hw.h46
  · exact (va_up_n (by omega)).trans hw.h47
  · exact (va_up_n (by omega)).trans hw.h48
  · exact (va_up_n (by omega)).trans hw.h49
  · exact (va_up_n (by omega)).trans hw.h50
  · exact (va_up_n (by omega)).trans hw.h51
  · exact (va_up_n (by omega)).trans hw.h52
  · exact (va_up_n (by omega)).trans hw.h53
  · exact hw.jk
  · exact fun j hj => (va_up_n (by omega)).trans (hw.fr j hj)
theorem MW.set_mo {G : eG} {ad : Nat → Nat} {s : St} {z : Zm} {hm h : Nat → va_E} (hw : MW G ad s z hm h) (v : Int32)  : MW G ad s (M_mo z v) hm (va_up h 34 (oM ad s (M_mo z v))) := by
  refine ⟨?_, ?_, ?_, ?_, ?_, ?_, ?_, ?_, ?_, ?_, ?_, ?_, ?_, ?_, ?_, ?_, ?_, ?_, ?_, ?_, ?_, ?_⟩
  · exact va_up_s
  · exact (va_up_n (by omega)).trans hw.h35
  · exact (va_up_n (by omega)).trans hw.h36
  · exact (va_up_n (by omega)).trans hw.h37
  · exact (va_up_n (by omega)).trans hw.h38
  · exact (va_up_n (by omega)).trans hw.h39
  · exact (va_up_n (by omega)).trans hw.h40
  · exact (va_up_n (by omega)).trans hw.h41
  · exact (va_up_n (by omega)).trans hw.h42
  · exact (va_up_n (by omega)).trans hw.h43
  · exact (va_up_n (by omega)).trans hw.h44
  · exact (va_up_n (by omega)).trans hw.h45
  · exact (va_up_n (by omega)).trans hw.h46
  · exact (va_up_n (by omega)).trans hw.h47
  · exact (va_up_n (by omega)).trans hw.h48
  · exact (va_up_n (by omega)).trans hw.h49
  · exact (va_up_n (by omega)).trans hw.h50
  · exact (va_up_n (by omega)).trans hw.h51
  · exact (va_up_n (by omega)).trans hw.h52
  · exact (va_up_n (by omega)).trans hw.h53
  · exact hw.jk
  · exact fun j hj => (va_up_n (by omega)).trans (hw.fr j hj)
theorem MW.set_bA {G : eG} {ad : Nat → Nat} {s : St} {z : Zm} {hm h : Nat → va_E} (hw : MW G ad s z hm h) (v : Int64)  : MW G ad s (M_bA z v) hm (va_up h 34 (oM ad s (M_bA z v))) := by
  refine ⟨?_, ?_, ?_, ?_, ?_, ?_, ?_, ?_, ?_, ?_, ?_, ?_, ?_, ?_, ?_, ?_, ?_, ?_, ?_, ?_, ?_, ?_⟩
  · exact va_up_s
  · exact (va_up_n (by omega)).trans hw.h35
  · exact (va_up_n (by omega)).trans hw.h36
  · exact (va_up_n (by omega)).trans hw.h37
  · exact (va_up_n (by omega)).trans hw.h38
  · exact (va_up_n (by omega)).trans hw.h39
  · exact (va_up_n (by omega)).trans hw.h40
  · exact (va_up_n (by omega)).trans hw.h41
  · exact (va_up_n (by omega)).trans hw.h42
  · exact (va_up_n (by omega)).trans hw.h43
  · exact (va_up_n (by omega)).trans hw.h44
  · exact (va_up_n (by omega)).trans hw.h45
  · exact (va_up_n (by omega)).trans hw.h46
  · exact (va_up_n (by omega)).trans hw.h47
  · exact (va_up_n (by omega)).trans hw.h48
  · exact (va_up_n (by omega)).trans hw.h49
  · exact (va_up_n (by omega)).trans hw.h50
  · exact (va_up_n (by omega)).trans hw.h51
  · exact (va_up_n (by omega)).trans hw.h52
  · exact (va_up_n (by omega)).trans hw.h53
  · exact hw.jk
  · exact fun j hj => (va_up_n (by omega)).trans (hw.fr j hj)
theorem MW.set_bB {G : eG} {ad : Nat → Nat} {s : St} {z : Zm} {hm h : Nat → va_E} (hw : MW G ad s z hm h) (v : Int64)  : MW G ad s (M_bB z v) hm (va_up h 34 (oM ad s (M_bB z v))) := by
  refine ⟨?_, ?_, ?_, ?_, ?_, ?_, ?_, ?_, ?_, ?_, ?_, ?_, ?_, ?_, ?_, ?_, ?_, ?_, ?_, ?_, ?_, ?_⟩
  · exact va_up_s
  · exact (va_up_n (by omega)).trans hw.h35
  · exact (va_up_n (by omega)).trans hw.h36
  · exact (va_up_n (by omega)).trans hw.h37
  · exact (va_up_n (by omega)).trans hw.h38
  · exact (va_up_n (by omega)).trans hw.h39
  · exact (va_up_n (by omega)).trans hw.h40
  · exact (va_up_n (by omega)).trans hw.h41
  · exact (va_up_n (by omega)).trans hw.h42
  · exact (va_up_n (by omega)).trans hw.h43
  · exact (va_up_n (by omega)).trans hw.h44
  · exact (va_up_n (by omega)).trans hw.h45
  · exact (va_up_n (by omega)).trans hw.h46
  · exact (va_up_n (by omega)).trans hw.h47
  · exact (va_up_n (by omega)).trans hw.h48
  · exact (va_up_n (by omega)).trans hw.h49
  · exact (va_up_n (by omega)).trans hw.h50
  · exact (va_up_n (by omega)).trans hw.h51
  · exact (va_up_n (by omega)).trans hw.h52
  · exact (va_up_n (by omega)).trans hw.h53
  · exact hw.jk
  · exact fun j hj => (va_up_n (by omega)).trans (hw.fr j hj)
theorem MW.set_hh {G : eG} {ad : Nat → Nat} {s : St} {z : Zm} {hm h : Nat → va_E} (hw : MW G ad s z hm h) (v : Int64)  : MW G ad s (M_hh z v) hm (va_up h 34 (oM ad s (M_hh z v))) := by
  refine ⟨?_, ?_, ?_, ?_, ?_, ?_, ?_, ?_, ?_, ?_, ?_, ?_, ?_, ?_, ?_, ?_, ?_, ?_, ?_, ?_, ?_, ?_⟩
  · exact va_up_s
  · exact (va_up_n (by omega)).trans hw.h35
  · exact (va_up_n (by omega)).trans hw.h36
  · exact (va_up_n (by omega)).trans hw.h37
  · exact (va_up_n (by omega)).trans hw.h38
  · exact (va_up_n (by omega)).trans hw.h39
  · exact (va_up_n (by omega)).trans hw.h40
  · exact (va_up_n (by omega)).trans hw.h41
  · exact (va_up_n (by omega)).trans hw.h42
  · exact (va_up_n (by omega)).trans hw.h43
  · exact (va_up_n (by omega)).trans hw.h44
  · exact (va_up_n (by omega)).trans hw.h45
  · exact (va_up_n (by omega)).trans hw.h46
  · exact (va_up_n (by omega)).trans hw.h47
  · exact (va_up_n (by omega)).trans hw.h48
  · exact (va_up_n (by omega)).trans hw.h49
  · exact (va_up_n (by omega)).trans hw.h50
  · exact (va_up_n (by omega)).trans hw.h51
  · exact (va_up_n (by omega)).trans hw.h52
  · exact (va_up_n (by omega)).trans hw.h53
  · exact hw.jk
  · exact fun j hj => (va_up_n (by omega)).trans (hw.fr j hj)
theorem MW.set_lost {G : eG} {ad : Nat → Nat} {s : St} {z : Zm} {hm h : Nat → va_E} (hw : MW G ad s z hm h) (k : Nat) (v : Bool)  : MW G ad (S_lost s (va_up (s_lost s) k v)) z hm (va_up h 35 (.inl (G.2.2 2, 6, .inl (upd (fun i => b2i (!(s_lost s i))) k (b2i (!v)))))) := by
  refine ⟨?_, ?_, ?_, ?_, ?_, ?_, ?_, ?_, ?_, ?_, ?_, ?_, ?_, ?_, ?_, ?_, ?_, ?_, ?_, ?_, ?_, ?_⟩
  · exact (va_up_n (by omega)).trans hw.h34
  · exact va_up_s.trans (by congr 4; funext i; simp only [upd, va_up, s_lost, s_lane, s_w, s_h, s_ct, s_bad, s_cn, s_ca, s_cb, s_cr, s_co, s_nm, s_li, s_lA, s_lB, s_lF, s_lc, s_ln, s_gc, s_gr, s_sn, s_cs, s_cc, s_md, S_lost, S_lane, S_w, S_h, S_ct, S_bad, S_cn, S_ca, S_cb, S_cr, S_co, S_nm, S_li, S_lA, S_lB, S_lF, S_lc, S_ln, S_gc, S_gr, S_sn, S_cs, S_cc, S_md, c_pp, c_sr, c_sl, c_sf, c_sq, c_sp, c_bi, c_ba, c_bb, c_bf, C_pp, C_sr, C_sl, C_sf, C_sq, C_sp, C_bi, C_ba, C_bb, C_bf, m_pm, m_pp, m_mo, m_bA, m_bB, m_hh, m_jA, m_jB, m_jF, M_pm, M_pp, M_mo, M_bA, M_bB, M_hh, M_jA, M_jB, M_jF]; split <;> rfl)
  · exact (va_up_n (by omega)).trans hw.h36
  · exact (va_up_n (by omega)).trans hw.h37
  · exact (va_up_n (by omega)).trans hw.h38
  · exact (va_up_n (by omega)).trans hw.h39
  · exact (va_up_n (by omega)).trans hw.h40
  · exact (va_up_n (by omega)).trans hw.h41
  · exact (va_up_n (by omega)).trans hw.h42
  · exact (va_up_n (by omega)).trans hw.h43
  · exact (va_up_n (by omega)).trans hw.h44
  · exact (va_up_n (by omega)).trans hw.h45
  · exact (va_up_n (by omega)).trans hw.h46
  · exact (va_up_n (by omega)).trans hw.h47
  · exact (va_up_n (by omega)).trans hw.h48
  · exact (va_up_n (by omega)).trans hw.h49
  · exact (va_up_n (by omega)).trans hw.h50
  · exact (va_up_n (by omega)).trans hw.h51
  · exact (va_up_n (by omega)).trans hw.h52
  · exact (va_up_n (by omega)).trans hw.h53
  · exact hw.jk
  · exact fun j hj => (va_up_n (by omega)).trans (hw.fr j hj)
theorem MW.set_lane {G : eG} {ad : Nat → Nat} {s : St} {z : Zm} {hm h : Nat → va_E} (hw : MW G ad s z hm h) (k : Nat) (v : Nat)  : MW G ad (S_lane s (va_up (s_lane s) k v)) z hm (va_up h 36 (.inl (G.2.2 0, 6, .inl (upd (fun i => nI (s_lane s i)) k (nI v))))) := by
  refine ⟨?_, ?_, ?_, ?_, ?_, ?_, ?_, ?_, ?_, ?_, ?_, ?_, ?_, ?_, ?_, ?_, ?_, ?_, ?_, ?_, ?_, ?_⟩
  · exact (va_up_n (by omega)).trans hw.h34
  · exact (va_up_n (by omega)).trans hw.h35
  · exact va_up_s.trans (by congr 4; funext i; simp only [upd, va_up, s_lost, s_lane, s_w, s_h, s_ct, s_bad, s_cn, s_ca, s_cb, s_cr, s_co, s_nm, s_li, s_lA, s_lB, s_lF, s_lc, s_ln, s_gc, s_gr, s_sn, s_cs, s_cc, s_md, S_lost, S_lane, S_w, S_h, S_ct, S_bad, S_cn, S_ca, S_cb, S_cr, S_co, S_nm, S_li, S_lA, S_lB, S_lF, S_lc, S_ln, S_gc, S_gr, S_sn, S_cs, S_cc, S_md, c_pp, c_sr, c_sl, c_sf, c_sq, c_sp, c_bi, c_ba, c_bb, c_bf, C_pp, C_sr, C_sl, C_sf, C_sq, C_sp, C_bi, C_ba, C_bb, C_bf, m_pm, m_pp, m_mo, m_bA, m_bB, m_hh, m_jA, m_jB, m_jF, M_pm, M_pp, M_mo, M_bA, M_bB, M_hh, M_jA, M_jB, M_jF]; split <;> rfl)
  · exact (va_up_n (by omega)).trans hw.h37
  · exact (va_up_n (by omega)).trans hw.h38
  · exact (va_up_n (by omega)).trans hw.h39
  · exact (va_up_n (by omega)).trans hw.h40
  · exact (va_up_n (by omega)).trans hw.h41
  · exact (va_up_n (by omega)).trans hw.h42
  · exact (va_up_n (by omega)).trans hw.h43
  · exact (va_up_n (by omega)).trans hw.h44
  · exact (va_up_n (by omega)).trans hw.h45
  · exact (va_up_n (by omega)).trans hw.h46
  · exact (va_up_n (by omega)).trans hw.h47
  · exact (va_up_n (by omega)).trans hw.h48
  · exact (va_up_n (by omega)).trans hw.h49
  · exact (va_up_n (by omega)).trans hw.h50
  · exact (va_up_n (by omega)).trans hw.h51
  · exact (va_up_n (by omega)).trans hw.h52
  · exact (va_up_n (by omega)).trans hw.h53
  · exact hw.jk
  · exact fun j hj => (va_up_n (by omega)).trans (hw.fr j hj)
theorem MW.set_w {G : eG} {ad : Nat → Nat} {s : St} {z : Zm} {hm h : Nat → va_E} (hw : MW G ad s z hm h) (k : Nat) (v : Nat)  : MW G ad (S_w s (va_up (s_w s) k v)) z hm (va_up h 37 (.inl (G.2.2 0, 6, .inl (upd (fun i => nI (s_w s i)) k (nI v))))) := by
  refine ⟨?_, ?_, ?_, ?_, ?_, ?_, ?_, ?_, ?_, ?_, ?_, ?_, ?_, ?_, ?_, ?_, ?_, ?_, ?_, ?_, ?_, ?_⟩
  · exact (va_up_n (by omega)).trans hw.h34
  · exact (va_up_n (by omega)).trans hw.h35
  · exact (va_up_n (by omega)).trans hw.h36
  · exact va_up_s.trans (by congr 4; funext i; simp only [upd, va_up, s_lost, s_lane, s_w, s_h, s_ct, s_bad, s_cn, s_ca, s_cb, s_cr, s_co, s_nm, s_li, s_lA, s_lB, s_lF, s_lc, s_ln, s_gc, s_gr, s_sn, s_cs, s_cc, s_md, S_lost, S_lane, S_w, S_h, S_ct, S_bad, S_cn, S_ca, S_cb, S_cr, S_co, S_nm, S_li, S_lA, S_lB, S_lF, S_lc, S_ln, S_gc, S_gr, S_sn, S_cs, S_cc, S_md, c_pp, c_sr, c_sl, c_sf, c_sq, c_sp, c_bi, c_ba, c_bb, c_bf, C_pp, C_sr, C_sl, C_sf, C_sq, C_sp, C_bi, C_ba, C_bb, C_bf, m_pm, m_pp, m_mo, m_bA, m_bB, m_hh, m_jA, m_jB, m_jF, M_pm, M_pp, M_mo, M_bA, M_bB, M_hh, M_jA, M_jB, M_jF]; split <;> rfl)
  · exact (va_up_n (by omega)).trans hw.h38
  · exact (va_up_n (by omega)).trans hw.h39
  · exact (va_up_n (by omega)).trans hw.h40
  · exact (va_up_n (by omega)).trans hw.h41
  · exact (va_up_n (by omega)).trans hw.h42
  · exact (va_up_n (by omega)).trans hw.h43
  · exact (va_up_n (by omega)).trans hw.h44
  · exact (va_up_n (by omega)).trans hw.h45
  · exact (va_up_n (by omega)).trans hw.h46
  · exact (va_up_n (by omega)).trans hw.h47
  · exact (va_up_n (by omega)).trans hw.h48
  · exact (va_up_n (by omega)).trans hw.h49
  · exact (va_up_n (by omega)).trans hw.h50
  · exact (va_up_n (by omega)).trans hw.h51
  · exact (va_up_n (by omega)).trans hw.h52
  · exact (va_up_n (by omega)).trans hw.h53
  · exact hw.jk
  · exact fun j hj => (va_up_n (by omega)).trans (hw.fr j hj)
theorem MW.set_h {G : eG} {ad : Nat → Nat} {s : St} {z : Zm} {hm h : Nat → va_E} (hw : MW G ad s z hm h) (k : Nat) (v : Nat)  : MW G ad (S_h s (va_up (s_h s) k v)) z hm (va_up h 38 (.inl (G.2.2 0, 6, .inl (upd (fun i => nI (s_h s i)) k (nI v))))) := by
  refine ⟨?_, ?_, ?_, ?_, ?_, ?_, ?_, ?_, ?_, ?_, ?_, ?_, ?_, ?_, ?_, ?_, ?_, ?_, ?_, ?_, ?_, ?_⟩
  · exact (va_up_n (by omega)).trans hw.h34
  · exact (va_up_n (by omega)).trans hw.h35
  · exact (va_up_n (by omega)).trans hw.h36
  · exact (va_up_n (by omega)).trans hw.h37
  · exact va_up_s.trans (by congr 4; funext i; simp only [upd, va_up, s_lost, s_lane, s_w, s_h, s_ct, s_bad, s_cn, s_ca, s_cb, s_cr, s_co, s_nm, s_li, s_lA, s_lB, s_lF, s_lc, s_ln, s_gc, s_gr, s_sn, s_cs, s_cc, s_md, S_lost, S_lane, S_w, S_h, S_ct, S_bad, S_cn, S_ca, S_cb, S_cr, S_co, S_nm, S_li, S_lA, S_lB, S_lF, S_lc, S_ln, S_gc, S_gr, S_sn, S_cs, S_cc, S_md, c_pp, c_sr, c_sl, c_sf, c_sq, c_sp, c_bi, c_ba, c_bb, c_bf, C_pp, C_sr, C_sl, C_sf, C_sq, C_sp, C_bi, C_ba, C_bb, C_bf, m_pm, m_pp, m_mo, m_bA, m_bB, m_hh, m_jA, m_jB, m_jF, M_pm, M_pp, M_mo, M_bA, M_bB, M_hh, M_jA, M_jB, M_jF]; split <;> rfl)
  · exact (va_up_n (by omega)).trans hw.h39
  · exact (va_up_n (by omega)).trans hw.h40
  · exact (va_up_n (by omega)).trans hw.h41
  · exact (va_up_n (by omega)).trans hw.h42
  · exact (va_up_n (by omega)).trans hw.h43
  · exact (va_up_n (by omega)).trans hw.h44
  · exact (va_up_n (by omega)).trans hw.h45
  · exact (va_up_n (by omega)).trans hw.h46
  · exact (va_up_n (by omega)).trans hw.h47
  · exact (va_up_n (by omega)).trans hw.h48
  · exact (va_up_n (by omega)).trans hw.h49
  · exact (va_up_n (by omega)).trans hw.h50
  · exact (va_up_n (by omega)).trans hw.h51
  · exact (va_up_n (by omega)).trans hw.h52
  · exact (va_up_n (by omega)).trans hw.h53
  · exact hw.jk
  · exact fun j hj => (va_up_n (by omega)).trans (hw.fr j hj)
theorem MW.set_bad {G : eG} {ad : Nat → Nat} {s : St} {z : Zm} {hm h : Nat → va_E} (hw : MW G ad s z hm h) (k : Nat) (v : Bool)  : MW G ad (S_bad s (va_up (s_bad s) k v)) z hm (va_up h 40 (.inl (G.2.2 2, 400, .inl (upd (fun i => b2i (s_bad s i)) k (b2i v))))) := by
  refine ⟨?_, ?_, ?_, ?_, ?_, ?_, ?_, ?_, ?_, ?_, ?_, ?_, ?_, ?_, ?_, ?_, ?_, ?_, ?_, ?_, ?_, ?_⟩
  · exact (va_up_n (by omega)).trans hw.h34
  · exact (va_up_n (by omega)).trans hw.h35
  · exact (va_up_n (by omega)).trans hw.h36
  · exact (va_up_n (by omega)).trans hw.h37
  · exact (va_up_n (by omega)).trans hw.h38
  · exact (va_up_n (by omega)).trans hw.h39
  · exact va_up_s.trans (by congr 4; funext i; simp only [upd, va_up, s_lost, s_lane, s_w, s_h, s_ct, s_bad, s_cn, s_ca, s_cb, s_cr, s_co, s_nm, s_li, s_lA, s_lB, s_lF, s_lc, s_ln, s_gc, s_gr, s_sn, s_cs, s_cc, s_md, S_lost, S_lane, S_w, S_h, S_ct, S_bad, S_cn, S_ca, S_cb, S_cr, S_co, S_nm, S_li, S_lA, S_lB, S_lF, S_lc, S_ln, S_gc, S_gr, S_sn, S_cs, S_cc, S_md, c_pp, c_sr, c_sl, c_sf, c_sq, c_sp, c_bi, c_ba, c_bb, c_bf, C_pp, C_sr, C_sl, C_sf, C_sq, C_sp, C_bi, C_ba, C_bb, C_bf, m_pm, m_pp, m_mo, m_bA, m_bB, m_hh, m_jA, m_jB, m_jF, M_pm, M_pp, M_mo, M_bA, M_bB, M_hh, M_jA, M_jB, M_jF]; split <;> rfl)
  · exact (va_up_n (by omega)).trans hw.h41
  · exact (va_up_n (by omega)).trans hw.h42
  · exact (va_up_n (by omega)).trans hw.h43
  · exact (va_up_n (by omega)).trans hw.h44
  · exact (va_up_n (by omega)).trans hw.h45
  · exact (va_up_n (by omega)).trans hw.h46
  · exact (va_up_n (by omega)).trans hw.h47
  · exact (va_up_n (by omega)).trans hw.h48
  · exact (va_up_n (by omega)).trans hw.h49
  · exact (va_up_n (by omega)).trans hw.h50
  · exact (va_up_n (by omega)).trans hw.h51
  · exact (va_up_n (by omega)).trans hw.h52
  · exact (va_up_n (by omega)).trans hw.h53
  · exact hw.jk
  · exact fun j hj => (va_up_n (by omega)).trans (hw.fr j hj)
theorem MW.set_ca {G : eG} {ad : Nat → Nat} {s : St} {z : Zm} {hm h : Nat → va_E} (hw : MW G ad s z hm h) (k : Nat) (v : Nat)  : MW G ad (S_ca s (va_up (s_ca s) k v)) z hm (va_up h 41 (.inl (G.2.2 0, 4, .inl (upd (fun i => nI (s_ca s i)) k (nI v))))) := by
  refine ⟨?_, ?_, ?_, ?_, ?_, ?_, ?_, ?_, ?_, ?_, ?_, ?_, ?_, ?_, ?_, ?_, ?_, ?_, ?_, ?_, ?_, ?_⟩
  · exact (va_up_n (by omega)).trans hw.h34
  · exact (va_up_n (by omega)).trans hw.h35
  · exact (va_up_n (by omega)).trans hw.h36
  · exact (va_up_n (by omega)).trans hw.h37
  · exact (va_up_n (by omega)).trans hw.h38
  · exact (va_up_n (by omega)).trans hw.h39
  · exact (va_up_n (by omega)).trans hw.h40
  · exact va_up_s.trans (by congr 4; funext i; simp only [upd, va_up, s_lost, s_lane, s_w, s_h, s_ct, s_bad, s_cn, s_ca, s_cb, s_cr, s_co, s_nm, s_li, s_lA, s_lB, s_lF, s_lc, s_ln, s_gc, s_gr, s_sn, s_cs, s_cc, s_md, S_lost, S_lane, S_w, S_h, S_ct, S_bad, S_cn, S_ca, S_cb, S_cr, S_co, S_nm, S_li, S_lA, S_lB, S_lF, S_lc, S_ln, S_gc, S_gr, S_sn, S_cs, S_cc, S_md, c_pp, c_sr, c_sl, c_sf, c_sq, c_sp, c_bi, c_ba, c_bb, c_bf, C_pp, C_sr, C_sl, C_sf, C_sq, C_sp, C_bi, C_ba, C_bb, C_bf, m_pm, m_pp, m_mo, m_bA, m_bB, m_hh, m_jA, m_jB, m_jF, M_pm, M_pp, M_mo, M_bA, M_bB, M_hh, M_jA, M_jB, M_jF]; split <;> rfl)
  · exact (va_up_n (by omega)).trans hw.h42
  · exact (va_up_n (by omega)).trans hw.h43
  · exact (va_up_n (by omega)).trans hw.h44
  · exact (va_up_n (by omega)).trans hw.h45
  · exact (va_up_n (by omega)).trans hw.h46
  · exact (va_up_n (by omega)).trans hw.h47
  · exact (va_up_n (by omega)).trans hw.h48
  · exact (va_up_n (by omega)).trans hw.h49
  · exact (va_up_n (by omega)).trans hw.h50
  · exact (va_up_n (by omega)).trans hw.h51
  · exact (va_up_n (by omega)).trans hw.h52
  · exact (va_up_n (by omega)).trans hw.h53
  · exact hw.jk
  · exact fun j hj => (va_up_n (by omega)).trans (hw.fr j hj)
theorem MW.set_cb {G : eG} {ad : Nat → Nat} {s : St} {z : Zm} {hm h : Nat → va_E} (hw : MW G ad s z hm h) (k : Nat) (v : Nat)  : MW G ad (S_cb s (va_up (s_cb s) k v)) z hm (va_up h 42 (.inl (G.2.2 0, 4, .inl (upd (fun i => nI (s_cb s i)) k (nI v))))) := by
  refine ⟨?_, ?_, ?_, ?_, ?_, ?_, ?_, ?_, ?_, ?_, ?_, ?_, ?_, ?_, ?_, ?_, ?_, ?_, ?_, ?_, ?_, ?_⟩
  · exact (va_up_n (by omega)).trans hw.h34
  · exact (va_up_n (by omega)).trans hw.h35
  · exact (va_up_n (by omega)).trans hw.h36
  · exact (va_up_n (by omega)).trans hw.h37
  · exact (va_up_n (by omega)).trans hw.h38
  · exact (va_up_n (by omega)).trans hw.h39
  · exact (va_up_n (by omega)).trans hw.h40
  · exact (va_up_n (by omega)).trans hw.h41
  · exact va_up_s.trans (by congr 4; funext i; simp only [upd, va_up, s_lost, s_lane, s_w, s_h, s_ct, s_bad, s_cn, s_ca, s_cb, s_cr, s_co, s_nm, s_li, s_lA, s_lB, s_lF, s_lc, s_ln, s_gc, s_gr, s_sn, s_cs, s_cc, s_md, S_lost, S_lane, S_w, S_h, S_ct, S_bad, S_cn, S_ca, S_cb, S_cr, S_co, S_nm, S_li, S_lA, S_lB, S_lF, S_lc, S_ln, S_gc, S_gr, S_sn, S_cs, S_cc, S_md, c_pp, c_sr, c_sl, c_sf, c_sq, c_sp, c_bi, c_ba, c_bb, c_bf, C_pp, C_sr, C_sl, C_sf, C_sq, C_sp, C_bi, C_ba, C_bb, C_bf, m_pm, m_pp, m_mo, m_bA, m_bB, m_hh, m_jA, m_jB, m_jF, M_pm, M_pp, M_mo, M_bA, M_bB, M_hh, M_jA, M_jB, M_jF]; split <;> rfl)
  · exact (va_up_n (by omega)).trans hw.h43
  · exact (va_up_n (by omega)).trans hw.h44
  · exact (va_up_n (by omega)).trans hw.h45
  · exact (va_up_n (by omega)).trans hw.h46
  · exact (va_up_n (by omega)).trans hw.h47
  · exact (va_up_n (by omega)).trans hw.h48
  · exact (va_up_n (by omega)).trans hw.h49
  · exact (va_up_n (by omega)).trans hw.h50
  · exact (va_up_n (by omega)).trans hw.h51
  · exact (va_up_n (by omega)).trans hw.h52
  · exact (va_up_n (by omega)).trans hw.h53
  · exact hw.jk
  · exact fun j hj => (va_up_n (by omega)).trans (hw.fr j hj)
theorem MW.set_cr {G : eG} {ad : Nat → Nat} {s : St} {z : Zm} {hm h : Nat → va_E} (hw : MW G ad s z hm h) (k : Nat) (v : Nat)  : MW G ad (S_cr s (va_up (s_cr s) k v)) z hm (va_up h 43 (.inl (G.2.2 0, 4, .inl (upd (fun i => nI (s_cr s i)) k (nI v))))) := by
  refine ⟨?_, ?_, ?_, ?_, ?_, ?_, ?_, ?_, ?_, ?_, ?_, ?_, ?_, ?_, ?_, ?_, ?_, ?_, ?_, ?_, ?_, ?_⟩
  · exact (va_up_n (by omega)).trans hw.h34
  · exact (va_up_n (by omega)).trans hw.h35
  · exact (va_up_n (by omega)).trans hw.h36
  · exact (va_up_n (by omega)).trans hw.h37
  · exact (va_up_n (by omega)).trans hw.h38
  · exact (va_up_n (by omega)).trans hw.h39
  · exact (va_up_n (by omega)).trans hw.h40
  · exact (va_up_n (by omega)).trans hw.h41
  · exact (va_up_n (by omega)).trans hw.h42
  · exact va_up_s.trans (by congr 4; funext i; simp only [upd, va_up, s_lost, s_lane, s_w, s_h, s_ct, s_bad, s_cn, s_ca, s_cb, s_cr, s_co, s_nm, s_li, s_lA, s_lB, s_lF, s_lc, s_ln, s_gc, s_gr, s_sn, s_cs, s_cc, s_md, S_lost, S_lane, S_w, S_h, S_ct, S_bad, S_cn, S_ca, S_cb, S_cr, S_co, S_nm, S_li, S_lA, S_lB, S_lF, S_lc, S_ln, S_gc, S_gr, S_sn, S_cs, S_cc, S_md, c_pp, c_sr, c_sl, c_sf, c_sq, c_sp, c_bi, c_ba, c_bb, c_bf, C_pp, C_sr, C_sl, C_sf, C_sq, C_sp, C_bi, C_ba, C_bb, C_bf, m_pm, m_pp, m_mo, m_bA, m_bB, m_hh, m_jA, m_jB, m_jF, M_pm, M_pp, M_mo, M_bA, M_bB, M_hh, M_jA, M_jB, M_jF]; split <;> rfl)
  · exact (va_up_n (by omega)).trans hw.h44
  · exact (va_up_n (by omega)).trans hw.h45
  · exact (va_up_n (by omega)).trans hw.h46
  · exact (va_up_n (by omega)).trans hw.h47
  · exact (va_up_n (by omega)).trans hw.h48
  · exact (va_up_n (by omega)).trans hw.h49
  · exact (va_up_n (by omega)).trans hw.h50
  · exact (va_up_n (by omega)).trans hw.h51
  · exact (va_up_n (by omega)).trans hw.h52
  · exact (va_up_n (by omega)).trans hw.h53
  · exact hw.jk
  · exact fun j hj => (va_up_n (by omega)).trans (hw.fr j hj)
theorem MW.set_co {G : eG} {ad : Nat → Nat} {s : St} {z : Zm} {hm h : Nat → va_E} (hw : MW G ad s z hm h) (k : Nat) (v : Nat)  : MW G ad (S_co s (va_up (s_co s) k v)) z hm (va_up h 44 (.inl (G.2.2 0, 4, .inl (upd (fun i => nI (s_co s i)) k (nI v))))) := by
  refine ⟨?_, ?_, ?_, ?_, ?_, ?_, ?_, ?_, ?_, ?_, ?_, ?_, ?_, ?_, ?_, ?_, ?_, ?_, ?_, ?_, ?_, ?_⟩
  · exact (va_up_n (by omega)).trans hw.h34
  · exact (va_up_n (by omega)).trans hw.h35
  · exact (va_up_n (by omega)).trans hw.h36
  · exact (va_up_n (by omega)).trans hw.h37
  · exact (va_up_n (by omega)).trans hw.h38
  · exact (va_up_n (by omega)).trans hw.h39
  · exact (va_up_n (by omega)).trans hw.h40
  · exact (va_up_n (by omega)).trans hw.h41
  · exact (va_up_n (by omega)).trans hw.h42
  · exact (va_up_n (by omega)).trans hw.h43
  · exact va_up_s.trans (by congr 4; funext i; simp only [upd, va_up, s_lost, s_lane, s_w, s_h, s_ct, s_bad, s_cn, s_ca, s_cb, s_cr, s_co, s_nm, s_li, s_lA, s_lB, s_lF, s_lc, s_ln, s_gc, s_gr, s_sn, s_cs, s_cc, s_md, S_lost, S_lane, S_w, S_h, S_ct, S_bad, S_cn, S_ca, S_cb, S_cr, S_co, S_nm, S_li, S_lA, S_lB, S_lF, S_lc, S_ln, S_gc, S_gr, S_sn, S_cs, S_cc, S_md, c_pp, c_sr, c_sl, c_sf, c_sq, c_sp, c_bi, c_ba, c_bb, c_bf, C_pp, C_sr, C_sl, C_sf, C_sq, C_sp, C_bi, C_ba, C_bb, C_bf, m_pm, m_pp, m_mo, m_bA, m_bB, m_hh, m_jA, m_jB, m_jF, M_pm, M_pp, M_mo, M_bA, M_bB, M_hh, M_jA, M_jB, M_jF]; split <;> rfl)
  · exact (va_up_n (by omega)).trans hw.h45
  · exact (va_up_n (by omega)).trans hw.h46
  · exact (va_up_n (by omega)).trans hw.h47
  · exact (va_up_n (by omega)).trans hw.h48
  · exact (va_up_n (by omega)).trans hw.h49
  · exact (va_up_n (by omega)).trans hw.h50
  · exact (va_up_n (by omega)).trans hw.h51
  · exact (va_up_n (by omega)).trans hw.h52
  · exact (va_up_n (by omega)).trans hw.h53
  · exact hw.jk
  · exact fun j hj => (va_up_n (by omega)).trans (hw.fr j hj)
theorem MW.set_liF {G : eG} {ad : Nat → Nat} {s : St} {z : Zm} {hm h : Nat → va_E} (hw : MW G ad s z hm h) (k : Nat)  : MW G ad (S_li s (va_up (s_li s) k false)) z hm (va_up h 46 (.inl (G.2.2 2, 4, .inl (upd (fun i => b2i (s_li s i)) k 0)))) := by
  refine ⟨?_, ?_, ?_, ?_, ?_, ?_, ?_, ?_, ?_, ?_, ?_, ?_, ?_, ?_, ?_, ?_, ?_, ?_, ?_, ?_, ?_, ?_⟩
  · exact (va_up_n (by omega)).trans hw.h34
  · exact (va_up_n (by omega)).trans hw.h35
  · exact (va_up_n (by omega)).trans hw.h36
  · exact (va_up_n (by omega)).trans hw.h37
  · exact (va_up_n (by omega)).trans hw.h38
  · exact (va_up_n (by omega)).trans hw.h39
  · exact (va_up_n (by omega)).trans hw.h40
  · exact (va_up_n (by omega)).trans hw.h41
  · exact (va_up_n (by omega)).trans hw.h42
  · exact (va_up_n (by omega)).trans hw.h43
  · exact (va_up_n (by omega)).trans hw.h44
  · exact (va_up_n (by omega)).trans hw.h45
  · exact va_up_s.trans (by congr 4; funext i; simp only [upd, va_up, s_lost, s_lane, s_w, s_h, s_ct, s_bad, s_cn, s_ca, s_cb, s_cr, s_co, s_nm, s_li, s_lA, s_lB, s_lF, s_lc, s_ln, s_gc, s_gr, s_sn, s_cs, s_cc, s_md, S_lost, S_lane, S_w, S_h, S_ct, S_bad, S_cn, S_ca, S_cb, S_cr, S_co, S_nm, S_li, S_lA, S_lB, S_lF, S_lc, S_ln, S_gc, S_gr, S_sn, S_cs, S_cc, S_md, c_pp, c_sr, c_sl, c_sf, c_sq, c_sp, c_bi, c_ba, c_bb, c_bf, C_pp, C_sr, C_sl, C_sf, C_sq, C_sp, C_bi, C_ba, C_bb, C_bf, m_pm, m_pp, m_mo, m_bA, m_bB, m_hh, m_jA, m_jB, m_jF, M_pm, M_pp, M_mo, M_bA, M_bB, M_hh, M_jA, M_jB, M_jF]; split <;> rfl)
  · exact (va_up_n (by omega)).trans hw.h47
  · exact (va_up_n (by omega)).trans hw.h48
  · exact (va_up_n (by omega)).trans hw.h49
  · exact (va_up_n (by omega)).trans hw.h50
  · exact (va_up_n (by omega)).trans hw.h51
  · exact (va_up_n (by omega)).trans hw.h52
  · exact (va_up_n (by omega)).trans hw.h53
  · exact fun c hc hl => by
      by_cases e : c = k
      · subst e; simp [va_up, s_lost, s_lane, s_w, s_h, s_ct, s_bad, s_cn, s_ca, s_cb, s_cr, s_co, s_nm, s_li, s_lA, s_lB, s_lF, s_lc, s_ln, s_gc, s_gr, s_sn, s_cs, s_cc, s_md, S_lost, S_lane, S_w, S_h, S_ct, S_bad, S_cn, S_ca, S_cb, S_cr, S_co, S_nm, S_li, S_lA, S_lB, S_lF, S_lc, S_ln, S_gc, S_gr, S_sn, S_cs, S_cc, S_md, c_pp, c_sr, c_sl, c_sf, c_sq, c_sp, c_bi, c_ba, c_bb, c_bf, C_pp, C_sr, C_sl, C_sf, C_sq, C_sp, C_bi, C_ba, C_bb, C_bf, m_pm, m_pp, m_mo, m_bA, m_bB, m_hh, m_jA, m_jB, m_jF, M_pm, M_pp, M_mo, M_bA, M_bB, M_hh, M_jA, M_jB, M_jF] at hl
      · simp only [va_up, if_neg e, s_lost, s_lane, s_w, s_h, s_ct, s_bad, s_cn, s_ca, s_cb, s_cr, s_co, s_nm, s_li, s_lA, s_lB, s_lF, s_lc, s_ln, s_gc, s_gr, s_sn, s_cs, s_cc, s_md, S_lost, S_lane, S_w, S_h, S_ct, S_bad, S_cn, S_ca, S_cb, S_cr, S_co, S_nm, S_li, S_lA, S_lB, S_lF, S_lc, S_ln, S_gc, S_gr, S_sn, S_cs, S_cc, S_md, c_pp, c_sr, c_sl, c_sf, c_sq, c_sp, c_bi, c_ba, c_bb, c_bf, C_pp, C_sr, C_sl, C_sf, C_sq, C_sp, C_bi, C_ba, C_bb, C_bf, m_pm, m_pp, m_mo, m_bA, m_bB, m_hh, m_jA, m_jB, m_jF, M_pm, M_pp, M_mo, M_bA, M_bB, M_hh, M_jA, M_jB, M_jF] at hl; exact hw.jk c hc hl
  · exact fun j hj => (va_up_n (by omega)).trans (hw.fr j hj)
theorem MW.set_liT {G : eG} {ad : Nat → Nat} {s : St} {z : Zm} {hm h : Nat → va_E} (hw : MW G ad s z hm h) (k : Nat)  : MW G ad (S_lF (S_lB (S_lA (S_li s (va_up (s_li s) k true)) (va_up (s_lA s) k (m_jA z k))) (va_up (s_lB s) k (m_jB z k))) (va_up (s_lF s) k (m_jF z k))) z hm (va_up h 46 (.inl (G.2.2 2, 4, .inl (upd (fun i => b2i (s_li s i)) k 1)))) := by
  refine ⟨?_, ?_, ?_, ?_, ?_, ?_, ?_, ?_, ?_, ?_, ?_, ?_, ?_, ?_, ?_, ?_, ?_, ?_, ?_, ?_, ?_, ?_⟩
  · exact (va_up_n (by omega)).trans hw.h34
  · exact (va_up_n (by omega)).trans hw.h35
  · exact (va_up_n (by omega)).trans hw.h36
  · exact (va_up_n (by omega)).trans hw.h37
  · exact (va_up_n (by omega)).trans hw.h38
  · exact (va_up_n (by omega)).trans hw.h39
  · exact (va_up_n (by omega)).trans hw.h40
  · exact (va_up_n (by omega)).trans hw.h41
  · exact (va_up_n (by omega)).trans hw.h42
  · exact (va_up_n (by omega)).trans hw.h43
  · exact (va_up_n (by omega)).trans hw.h44
  · exact (va_up_n (by omega)).trans hw.h45
  · exact va_up_s.trans (by congr 4; funext i; simp only [upd, va_up, s_lost, s_lane, s_w, s_h, s_ct, s_bad, s_cn, s_ca, s_cb, s_cr, s_co, s_nm, s_li, s_lA, s_lB, s_lF, s_lc, s_ln, s_gc, s_gr, s_sn, s_cs, s_cc, s_md, S_lost, S_lane, S_w, S_h, S_ct, S_bad, S_cn, S_ca, S_cb, S_cr, S_co, S_nm, S_li, S_lA, S_lB, S_lF, S_lc, S_ln, S_gc, S_gr, S_sn, S_cs, S_cc, S_md, c_pp, c_sr, c_sl, c_sf, c_sq, c_sp, c_bi, c_ba, c_bb, c_bf, C_pp, C_sr, C_sl, C_sf, C_sq, C_sp, C_bi, C_ba, C_bb, C_bf, m_pm, m_pp, m_mo, m_bA, m_bB, m_hh, m_jA, m_jB, m_jF, M_pm, M_pp, M_mo, M_bA, M_bB, M_hh, M_jA, M_jB, M_jF]; split <;> rfl)
  · exact (va_up_n (by omega)).trans hw.h47
  · exact (va_up_n (by omega)).trans hw.h48
  · exact (va_up_n (by omega)).trans hw.h49
  · exact (va_up_n (by omega)).trans hw.h50
  · exact (va_up_n (by omega)).trans hw.h51
  · exact (va_up_n (by omega)).trans hw.h52
  · exact (va_up_n (by omega)).trans hw.h53
  · exact fun c hc hl => by
      by_cases e : c = k
      · subst e; simp [va_up, s_lost, s_lane, s_w, s_h, s_ct, s_bad, s_cn, s_ca, s_cb, s_cr, s_co, s_nm, s_li, s_lA, s_lB, s_lF, s_lc, s_ln, s_gc, s_gr, s_sn, s_cs, s_cc, s_md, S_lost, S_lane, S_w, S_h, S_ct, S_bad, S_cn, S_ca, S_cb, S_cr, S_co, S_nm, S_li, S_lA, S_lB, S_lF, S_lc, S_ln, S_gc, S_gr, S_sn, S_cs, S_cc, S_md, c_pp, c_sr, c_sl, c_sf, c_sq, c_sp, c_bi, c_ba, c_bb, c_bf, C_pp, C_sr, C_sl, C_sf, C_sq, C_sp, C_bi, C_ba, C_bb, C_bf, m_pm, m_pp, m_mo, m_bA, m_bB, m_hh, m_jA, m_jB, m_jF, M_pm, M_pp, M_mo, M_bA, M_bB, M_hh, M_jA, M_jB, M_jF]
      · simp only [va_up, if_neg e, s_lost, s_lane, s_w, s_h, s_ct, s_bad, s_cn, s_ca, s_cb, s_cr, s_co, s_nm, s_li, s_lA, s_lB, s_lF, s_lc, s_ln, s_gc, s_gr, s_sn, s_cs, s_cc, s_md, S_lost, S_lane, S_w, S_h, S_ct, S_bad, S_cn, S_ca, S_cb, S_cr, S_co, S_nm, S_li, S_lA, S_lB, S_lF, S_lc, S_ln, S_gc, S_gr, S_sn, S_cs, S_cc, S_md, c_pp, c_sr, c_sl, c_sf, c_sq, c_sp, c_bi, c_ba, c_bb, c_bf, C_pp, C_sr, C_sl, C_sf, C_sq, C_sp, C_bi, C_ba, C_bb, C_bf, m_pm, m_pp, m_mo, m_bA, m_bB, m_hh, m_jA, m_jB, m_jF, M_pm, M_pp, M_mo, M_bA, M_bB, M_hh, M_jA, M_jB, M_jF] at hl ⊢; exact hw.jk c hc hl
  · exact fun j hj => (va_up_n (by omega)).trans (hw.fr j hj)
theorem MW.set_lA {G : eG} {ad : Nat → Nat} {s : St} {z : Zm} {hm h : Nat → va_E} (hw : MW G ad s z hm h) (k : Nat) (v : Int32)  : MW G ad (S_lA s (upd (s_lA s) k v)) (M_jA z (upd (m_jA z) k v)) hm (va_up h 47 (.inl (G.2.2 0, 4, .inl (upd (m_jA z) k v)))) := by
  refine ⟨?_, ?_, ?_, ?_, ?_, ?_, ?_, ?_, ?_, ?_, ?_, ?_, ?_, ?_, ?_, ?_, ?_, ?_, ?_, ?_, ?_, ?_⟩
  · exact (va_up_n (by omega)).trans hw.h34
  · exact (va_up_n (by omega)).trans hw.h35
  · exact (va_up_n (by omega)).trans hw.h36
  · exact (va_up_n (by omega)).trans hw.h37
  · exact (va_up_n (by omega)).trans hw.h38
  · exact (va_up_n (by omega)).trans hw.h39
  · exact (va_up_n (by omega)).trans hw.h40
  · exact (va_up_n (by omega)).trans hw.h41
  · exact (va_up_n (by omega)).trans hw.h42
  · exact (va_up_n (by omega)).trans hw.h43
  · exact (va_up_n (by omega)).trans hw.h44
  · exact (va_up_n (by omega)).trans hw.h45
  · exact (va_up_n (by omega)).trans hw.h46
  · exact va_up_s
  · exact (va_up_n (by omega)).trans hw.h48
  · exact (va_up_n (by omega)).trans hw.h49
  · exact (va_up_n (by omega)).trans hw.h50
  · exact (va_up_n (by omega)).trans hw.h51
  · exact (va_up_n (by omega)).trans hw.h52
  · exact (va_up_n (by omega)).trans hw.h53
  · exact fun c hc hl => by
      have q := hw.jk c hc hl
      simp only [upd, s_lost, s_lane, s_w, s_h, s_ct, s_bad, s_cn, s_ca, s_cb, s_cr, s_co, s_nm, s_li, s_lA, s_lB, s_lF, s_lc, s_ln, s_gc, s_gr, s_sn, s_cs, s_cc, s_md, S_lost, S_lane, S_w, S_h, S_ct, S_bad, S_cn, S_ca, S_cb, S_cr, S_co, S_nm, S_li, S_lA, S_lB, S_lF, S_lc, S_ln, S_gc, S_gr, S_sn, S_cs, S_cc, S_md, c_pp, c_sr, c_sl, c_sf, c_sq, c_sp, c_bi, c_ba, c_bb, c_bf, C_pp, C_sr, C_sl, C_sf, C_sq, C_sp, C_bi, C_ba, C_bb, C_bf, m_pm, m_pp, m_mo, m_bA, m_bB, m_hh, m_jA, m_jB, m_jF, M_pm, M_pp, M_mo, M_bA, M_bB, M_hh, M_jA, M_jB, M_jF] at q ⊢
      refine ⟨?_, ?_, ?_⟩ <;> (try split) <;> (first | rfl | exact q.1 | exact q.2.1 | exact q.2.2)
  · exact fun j hj => (va_up_n (by omega)).trans (hw.fr j hj)
theorem MW.set_lB {G : eG} {ad : Nat → Nat} {s : St} {z : Zm} {hm h : Nat → va_E} (hw : MW G ad s z hm h) (k : Nat) (v : Int32)  : MW G ad (S_lB s (upd (s_lB s) k v)) (M_jB z (upd (m_jB z) k v)) hm (va_up h 48 (.inl (G.2.2 0, 4, .inl (upd (m_jB z) k v)))) := by
  refine ⟨?_, ?_, ?_, ?_, ?_, ?_, ?_, ?_, ?_, ?_, ?_, ?_, ?_, ?_, ?_, ?_, ?_, ?_, ?_, ?_, ?_, ?_⟩
  · exact (va_up_n (by omega)).trans hw.h34
  · exact (va_up_n (by omega)).trans hw.h35
  · exact (va_up_n (by omega)).trans hw.h36
  · exact (va_up_n (by omega)).trans hw.h37
  · exact (va_up_n (by omega)).trans hw.h38
  · exact (va_up_n (by omega)).trans hw.h39
  · exact (va_up_n (by omega)).trans hw.h40
  · exact (va_up_n (by omega)).trans hw.h41
  · exact (va_up_n (by omega)).trans hw.h42
  · exact (va_up_n (by omega)).trans hw.h43
  · exact (va_up_n (by omega)).trans hw.h44
  · exact (va_up_n (by omega)).trans hw.h45
  · exact (va_up_n (by omega)).trans hw.h46
  · exact (va_up_n (by omega)).trans hw.h47
  · exact va_up_s
  · exact (va_up_n (by omega)).trans hw.h49
  · exact (va_up_n (by omega)).trans hw.h50
  · exact (va_up_n (by omega)).trans hw.h51
  · exact (va_up_n (by omega)).trans hw.h52
  · exact (va_up_n (by omega)).trans hw.h53
  · exact fun c hc hl => by
      have q := hw.jk c hc hl
      simp only [upd, s_lost, s_lane, s_w, s_h, s_ct, s_bad, s_cn, s_ca, s_cb, s_cr, s_co, s_nm, s_li, s_lA, s_lB, s_lF, s_lc, s_ln, s_gc, s_gr, s_sn, s_cs, s_cc, s_md, S_lost, S_lane, S_w, S_h, S_ct, S_bad, S_cn, S_ca, S_cb, S_cr, S_co, S_nm, S_li, S_lA, S_lB, S_lF, S_lc, S_ln, S_gc, S_gr, S_sn, S_cs, S_cc, S_md, c_pp, c_sr, c_sl, c_sf, c_sq, c_sp, c_bi, c_ba, c_bb, c_bf, C_pp, C_sr, C_sl, C_sf, C_sq, C_sp, C_bi, C_ba, C_bb, C_bf, m_pm, m_pp, m_mo, m_bA, m_bB, m_hh, m_jA, m_jB, m_jF, M_pm, M_pp, M_mo, M_bA, M_bB, M_hh, M_jA, M_jB, M_jF] at q ⊢
      refine ⟨?_, ?_, ?_⟩ <;> (try split) <;> (first | rfl | exact q.1 | exact q.2.1 | exact q.2.2)
  · exact fun j hj => (va_up_n (by omega)).trans (hw.fr j hj)
theorem MW.set_lF {G : eG} {ad : Nat → Nat} {s : St} {z : Zm} {hm h : Nat → va_E} (hw : MW G ad s z hm h) (k : Nat) (v : Int32)  : MW G ad (S_lF s (upd (s_lF s) k v)) (M_jF z (upd (m_jF z) k v)) hm (va_up h 49 (.inl (G.2.2 0, 4, .inl (upd (m_jF z) k v)))) := by
  refine ⟨?_, ?_, ?_, ?_, ?_, ?_, ?_, ?_, ?_, ?_, ?_, ?_, ?_, ?_, ?_, ?_, ?_, ?_, ?_, ?_, ?_, ?_⟩
  · exact (va_up_n (by omega)).trans hw.h34
  · exact (va_up_n (by omega)).trans hw.h35
  · exact (va_up_n (by omega)).trans hw.h36
  · exact (va_up_n (by omega)).trans hw.h37
  · exact (va_up_n (by omega)).trans hw.h38
  · exact (va_up_n (by omega)).trans hw.h39
  · exact (va_up_n (by omega)).trans hw.h40
  · exact (va_up_n (by omega)).trans hw.h41
  · exact (va_up_n (by omega)).trans hw.h42
  · exact (va_up_n (by omega)).trans hw.h43
  · exact (va_up_n (by omega)).trans hw.h44
  · exact (va_up_n (by omega)).trans hw.h45
  · exact (va_up_n (by omega)).trans hw.h46
  · exact (va_up_n (by omega)).trans hw.h47
  · exact (va_up_n (by omega)).trans hw.h48
  · exact va_up_s
  · exact (va_up_n (by omega)).trans hw.h50
  · exact (va_up_n (by omega)).trans hw.h51
  · exact (va_up_n (by omega)).trans hw.h52
  · exact (va_up_n (by omega)).trans hw.h53
  · exact fun c hc hl => by
      have q := hw.jk c hc hl
      simp only [upd, s_lost, s_lane, s_w, s_h, s_ct, s_bad, s_cn, s_ca, s_cb, s_cr, s_co, s_nm, s_li, s_lA, s_lB, s_lF, s_lc, s_ln, s_gc, s_gr, s_sn, s_cs, s_cc, s_md, S_lost, S_lane, S_w, S_h, S_ct, S_bad, S_cn, S_ca, S_cb, S_cr, S_co, S_nm, S_li, S_lA, S_lB, S_lF, S_lc, S_ln, S_gc, S_gr, S_sn, S_cs, S_cc, S_md, c_pp, c_sr, c_sl, c_sf, c_sq, c_sp, c_bi, c_ba, c_bb, c_bf, C_pp, C_sr, C_sl, C_sf, C_sq, C_sp, C_bi, C_ba, C_bb, C_bf, m_pm, m_pp, m_mo, m_bA, m_bB, m_hh, m_jA, m_jB, m_jF, M_pm, M_pp, M_mo, M_bA, M_bB, M_hh, M_jA, M_jB, M_jF] at q ⊢
      refine ⟨?_, ?_, ?_⟩ <;> (try split) <;> (first | rfl | exact q.1 | exact q.2.1 | exact q.2.2)
  · exact fun j hj => (va_up_n (by omega)).trans (hw.fr j hj)
theorem MW.set_ct {G : eG} {ad : Nat → Nat} {s : St} {z : Zm} {hm h : Nat → va_E} (hw : MW G ad s z hm h) (p k : Nat) (v : Int32) (hk : k < 400) : MW G ad (S_ct s (va_up (s_ct s) p (upd (s_ct s p) k v))) z hm (va_up h 39 (.inl (G.2.2 0, 2400, .inl (upd (fun i => s_ct s (i / 400) (i % 400)) (400 * p + k) v)))) := by
  refine ⟨?_, ?_, ?_, ?_, ?_, ?_, ?_, ?_, ?_, ?_, ?_, ?_, ?_, ?_, ?_, ?_, ?_, ?_, ?_, ?_, ?_, ?_⟩
  · exact (va_up_n (by omega)).trans hw.h34
  · exact (va_up_n (by omega)).trans hw.h35
  · exact (va_up_n (by omega)).trans hw.h36
  · exact (va_up_n (by omega)).trans hw.h37
  · exact (va_up_n (by omega)).trans hw.h38
  · exact va_up_s.trans (by
      congr 4; funext i
      by_cases e : i = 400 * p + k
      · subst e
        have e1 : (400 * p + k) / 400 = p := by omega
        have e2 : (400 * p + k) % 400 = k := by omega
        simp [upd, va_up, e1, e2, s_lost, s_lane, s_w, s_h, s_ct, s_bad, s_cn, s_ca, s_cb, s_cr, s_co, s_nm, s_li, s_lA, s_lB, s_lF, s_lc, s_ln, s_gc, s_gr, s_sn, s_cs, s_cc, s_md, S_lost, S_lane, S_w, S_h, S_ct, S_bad, S_cn, S_ca, S_cb, S_cr, S_co, S_nm, S_li, S_lA, S_lB, S_lF, S_lc, S_ln, S_gc, S_gr, S_sn, S_cs, S_cc, S_md, c_pp, c_sr, c_sl, c_sf, c_sq, c_sp, c_bi, c_ba, c_bb, c_bf, C_pp, C_sr, C_sl, C_sf, C_sq, C_sp, C_bi, C_ba, C_bb, C_bf, m_pm, m_pp, m_mo, m_bA, m_bB, m_hh, m_jA, m_jB, m_jF, M_pm, M_pp, M_mo, M_bA, M_bB, M_hh, M_jA, M_jB, M_jF]
      · have e3 : ¬ (i / 400 = p ∧ i % 400 = k) := by omega
        simp only [upd, va_up, if_neg e, s_lost, s_lane, s_w, s_h, s_ct, s_bad, s_cn, s_ca, s_cb, s_cr, s_co, s_nm, s_li, s_lA, s_lB, s_lF, s_lc, s_ln, s_gc, s_gr, s_sn, s_cs, s_cc, s_md, S_lost, S_lane, S_w, S_h, S_ct, S_bad, S_cn, S_ca, S_cb, S_cr, S_co, S_nm, S_li, S_lA, S_lB, S_lF, S_lc, S_ln, S_gc, S_gr, S_sn, S_cs, S_cc, S_md, c_pp, c_sr, c_sl, c_sf, c_sq, c_sp, c_bi, c_ba, c_bb, c_bf, C_pp, C_sr, C_sl, C_sf, C_sq, C_sp, C_bi, C_ba, C_bb, C_bf, m_pm, m_pp, m_mo, m_bA, m_bB, m_hh, m_jA, m_jB, m_jF, M_pm, M_pp, M_mo, M_bA, M_bB, M_hh, M_jA, M_jB, M_jF]
        by_cases e4 : i / 400 = p
        · have e5 : ¬ i % 400 = k := fun q => e3 ⟨e4, q⟩
          simp [e4, e5, upd, va_up]
        · simp [e4])
  · exact (va_up_n (by omega)).trans hw.h40
  · exact (va_up_n (by omega)).trans hw.h41
  · exact (va_up_n (by omega)).trans hw.h42
  · exact (va_up_n (by omega)).trans hw.h43
  · exact (va_up_n (by omega)).trans hw.h44
  · exact (va_up_n (by omega)).trans hw.h45
  · exact (va_up_n (by omega)).trans hw.h46
  · exact (va_up_n (by omega)).trans hw.h47
  · exact (va_up_n (by omega)).trans hw.h48
  · exact (va_up_n (by omega)).trans hw.h49
  · exact (va_up_n (by omega)).trans hw.h50
  · exact (va_up_n (by omega)).trans hw.h51
  · exact (va_up_n (by omega)).trans hw.h52
  · exact (va_up_n (by omega)).trans hw.h53
  · exact hw.jk
  · exact fun j hj => (va_up_n (by omega)).trans (hw.fr j hj)
theorem MW.set_nm {G : eG} {ad : Nat → Nat} {s : St} {z : Zm} {hm h : Nat → va_E} (hw : MW G ad s z hm h) (p k : Nat) (v : Nat) (hk : k < 20) : MW G ad (S_nm s (va_up (s_nm s) p (va_up (s_nm s p) k v))) z hm (va_up h 45 (.inl (G.2.2 1, 80, .inr (.inl (vp_updL (fun i => lN (s_nm s (i / 20) (i % 20))) (20 * p + k) (lN v)))))) := by
  refine ⟨?_, ?_, ?_, ?_, ?_, ?_, ?_, ?_, ?_, ?_, ?_, ?_, ?_, ?_, ?_, ?_, ?_, ?_, ?_, ?_, ?_, ?_⟩
  · exact (va_up_n (by omega)).trans hw.h34
  · exact (va_up_n (by omega)).trans hw.h35
  · exact (va_up_n (by omega)).trans hw.h36
  · exact (va_up_n (by omega)).trans hw.h37
  · exact (va_up_n (by omega)).trans hw.h38
  · exact (va_up_n (by omega)).trans hw.h39
  · exact (va_up_n (by omega)).trans hw.h40
  · exact (va_up_n (by omega)).trans hw.h41
  · exact (va_up_n (by omega)).trans hw.h42
  · exact (va_up_n (by omega)).trans hw.h43
  · exact (va_up_n (by omega)).trans hw.h44
  · exact va_up_s.trans (by
      congr 5; funext i
      by_cases e : i = 20 * p + k
      · subst e
        have e1 : (20 * p + k) / 20 = p := by omega
        have e2 : (20 * p + k) % 20 = k := by omega
        simp [vp_updL, va_up, e1, e2, s_lost, s_lane, s_w, s_h, s_ct, s_bad, s_cn, s_ca, s_cb, s_cr, s_co, s_nm, s_li, s_lA, s_lB, s_lF, s_lc, s_ln, s_gc, s_gr, s_sn, s_cs, s_cc, s_md, S_lost, S_lane, S_w, S_h, S_ct, S_bad, S_cn, S_ca, S_cb, S_cr, S_co, S_nm, S_li, S_lA, S_lB, S_lF, S_lc, S_ln, S_gc, S_gr, S_sn, S_cs, S_cc, S_md, c_pp, c_sr, c_sl, c_sf, c_sq, c_sp, c_bi, c_ba, c_bb, c_bf, C_pp, C_sr, C_sl, C_sf, C_sq, C_sp, C_bi, C_ba, C_bb, C_bf, m_pm, m_pp, m_mo, m_bA, m_bB, m_hh, m_jA, m_jB, m_jF, M_pm, M_pp, M_mo, M_bA, M_bB, M_hh, M_jA, M_jB, M_jF]
      · have e3 : ¬ (i / 20 = p ∧ i % 20 = k) := by omega
        simp only [vp_updL, va_up, if_neg e, s_lost, s_lane, s_w, s_h, s_ct, s_bad, s_cn, s_ca, s_cb, s_cr, s_co, s_nm, s_li, s_lA, s_lB, s_lF, s_lc, s_ln, s_gc, s_gr, s_sn, s_cs, s_cc, s_md, S_lost, S_lane, S_w, S_h, S_ct, S_bad, S_cn, S_ca, S_cb, S_cr, S_co, S_nm, S_li, S_lA, S_lB, S_lF, S_lc, S_ln, S_gc, S_gr, S_sn, S_cs, S_cc, S_md, c_pp, c_sr, c_sl, c_sf, c_sq, c_sp, c_bi, c_ba, c_bb, c_bf, C_pp, C_sr, C_sl, C_sf, C_sq, C_sp, C_bi, C_ba, C_bb, C_bf, m_pm, m_pp, m_mo, m_bA, m_bB, m_hh, m_jA, m_jB, m_jF, M_pm, M_pp, M_mo, M_bA, M_bB, M_hh, M_jA, M_jB, M_jF]
        by_cases e4 : i / 20 = p
        · have e5 : ¬ i % 20 = k := fun q => e3 ⟨e4, q⟩
          simp [e4, e5, upd, va_up]
        · simp [e4])
  · exact (va_up_n (by omega)).trans hw.h46
  · exact (va_up_n (by omega)).trans hw.h47
  · exact (va_up_n (by omega)).trans hw.h48
  · exact (va_up_n (by omega)).trans hw.h49
  · exact (va_up_n (by omega)).trans hw.h50
  · exact (va_up_n (by omega)).trans hw.h51
  · exact (va_up_n (by omega)).trans hw.h52
  · exact (va_up_n (by omega)).trans hw.h53
  · exact hw.jk
  · exact fun j hj => (va_up_n (by omega)).trans (hw.fr j hj)
theorem MW.set_ln {G : eG} {ad : Nat → Nat} {s : St} {z : Zm} {hm h : Nat → va_E} (hw : MW G ad s z hm h) (k : Nat) (v : Int32)  : MW G ad (S_ln s (upd (s_ln s) k v)) z hm (va_up h 50 (.inl (G.2.2 0, 12, .inl (upd (s_ln s) k v)))) := by
  refine ⟨?_, ?_, ?_, ?_, ?_, ?_, ?_, ?_, ?_, ?_, ?_, ?_, ?_, ?_, ?_, ?_, ?_, ?_, ?_, ?_, ?_, ?_⟩
  · exact (va_up_n (by omega)).trans hw.h34
  · exact (va_up_n (by omega)).trans hw.h35
  · exact (va_up_n (by omega)).trans hw.h36
  · exact (va_up_n (by omega)).trans hw.h37
  · exact (va_up_n (by omega)).trans hw.h38
  · exact (va_up_n (by omega)).trans hw.h39
  · exact (va_up_n (by omega)).trans hw.h40
  · exact (va_up_n (by omega)).trans hw.h41
  · exact (va_up_n (by omega)).trans hw.h42
  · exact (va_up_n (by omega)).trans hw.h43
  · exact (va_up_n (by omega)).trans hw.h44
  · exact (va_up_n (by omega)).trans hw.h45
  · exact (va_up_n (by omega)).trans hw.h46
  · exact (va_up_n (by omega)).trans hw.h47
  · exact (va_up_n (by omega)).trans hw.h48
  · exact (va_up_n (by omega)).trans hw.h49
  · exact va_up_s
  · exact (va_up_n (by omega)).trans hw.h51
  · exact (va_up_n (by omega)).trans hw.h52
  · exact (va_up_n (by omega)).trans hw.h53
  · exact hw.jk
  · exact fun j hj => (va_up_n (by omega)).trans (hw.fr j hj)
theorem MW.set_gr {G : eG} {ad : Nat → Nat} {s : St} {z : Zm} {hm h : Nat → va_E} (hw : MW G ad s z hm h) (k : Nat) (v : Int64)  : MW G ad (S_gr s (vp_updL (s_gr s) k v)) z hm (va_up h 51 (.inl (G.2.2 1, 60, .inr (.inl (vp_updL (s_gr s) k v))))) := by
  refine ⟨?_, ?_, ?_, ?_, ?_, ?_, ?_, ?_, ?_, ?_, ?_, ?_, ?_, ?_, ?_, ?_, ?_, ?_, ?_, ?_, ?_, ?_⟩
  · exact (va_up_n (by omega)).trans hw.h34
  · exact (va_up_n (by omega)).trans hw.h35
  · exact (va_up_n (by omega)).trans hw.h36
  · exact (va_up_n (by omega)).trans hw.h37
  · exact (va_up_n (by omega)).trans hw.h38
  · exact (va_up_n (by omega)).trans hw.h39
  · exact (va_up_n (by omega)).trans hw.h40
  · exact (va_up_n (by omega)).trans hw.h41
  · exact (va_up_n (by omega)).trans hw.h42
  · exact (va_up_n (by omega)).trans hw.h43
  · exact (va_up_n (by omega)).trans hw.h44
  · exact (va_up_n (by omega)).trans hw.h45
  · exact (va_up_n (by omega)).trans hw.h46
  · exact (va_up_n (by omega)).trans hw.h47
  · exact (va_up_n (by omega)).trans hw.h48
  · exact (va_up_n (by omega)).trans hw.h49
  · exact (va_up_n (by omega)).trans hw.h50
  · exact va_up_s
  · exact (va_up_n (by omega)).trans hw.h52
  · exact (va_up_n (by omega)).trans hw.h53
  · exact hw.jk
  · exact fun j hj => (va_up_n (by omega)).trans (hw.fr j hj)
theorem MW.set_cc {G : eG} {ad : Nat → Nat} {s : St} {z : Zm} {hm h : Nat → va_E} (hw : MW G ad s z hm h) (k : Nat) (v : Int32)  : MW G ad (S_cc s (upd (s_cc s) k v)) z hm (va_up h 52 (.inl (G.2.2 0, 6, .inl (upd (s_cc s) k v)))) := by
  refine ⟨?_, ?_, ?_, ?_, ?_, ?_, ?_, ?_, ?_, ?_, ?_, ?_, ?_, ?_, ?_, ?_, ?_, ?_, ?_, ?_, ?_, ?_⟩
  · exact (va_up_n (by omega)).trans hw.h34
  · exact (va_up_n (by omega)).trans hw.h35
  · exact (va_up_n (by omega)).trans hw.h36
  · exact (va_up_n (by omega)).trans hw.h37
  · exact (va_up_n (by omega)).trans hw.h38
  · exact (va_up_n (by omega)).trans hw.h39
  · exact (va_up_n (by omega)).trans hw.h40
  · exact (va_up_n (by omega)).trans hw.h41
  · exact (va_up_n (by omega)).trans hw.h42
  · exact (va_up_n (by omega)).trans hw.h43
  · exact (va_up_n (by omega)).trans hw.h44
  · exact (va_up_n (by omega)).trans hw.h45
  · exact (va_up_n (by omega)).trans hw.h46
  · exact (va_up_n (by omega)).trans hw.h47
  · exact (va_up_n (by omega)).trans hw.h48
  · exact (va_up_n (by omega)).trans hw.h49
  · exact (va_up_n (by omega)).trans hw.h50
  · exact (va_up_n (by omega)).trans hw.h51
  · exact va_up_s
  · exact (va_up_n (by omega)).trans hw.h53
  · exact hw.jk
  · exact fun j hj => (va_up_n (by omega)).trans (hw.fr j hj)
theorem MW.set_pp {G : eG} {ad : Nat → Nat} {s : St} {z : Zm} {hm h : Nat → va_E} (hw : MW G ad s z hm h) (k : Nat) (v : Int32)  : MW G ad s (M_pp z (upd (m_pp z) k v)) hm (va_up h 53 (.inl (G.2.2 0, 20, .inl (upd (m_pp z) k v)))) := by
  refine ⟨?_, ?_, ?_, ?_, ?_, ?_, ?_, ?_, ?_, ?_, ?_, ?_, ?_, ?_, ?_, ?_, ?_, ?_, ?_, ?_, ?_, ?_⟩
  · exact (va_up_n (by omega)).trans hw.h34
  · exact (va_up_n (by omega)).trans hw.h35
  · exact (va_up_n (by omega)).trans hw.h36
  · exact (va_up_n (by omega)).trans hw.h37
  · exact (va_up_n (by omega)).trans hw.h38
  · exact (va_up_n (by omega)).trans hw.h39
  · exact (va_up_n (by omega)).trans hw.h40
  · exact (va_up_n (by omega)).trans hw.h41
  · exact (va_up_n (by omega)).trans hw.h42
  · exact (va_up_n (by omega)).trans hw.h43
  · exact (va_up_n (by omega)).trans hw.h44
  · exact (va_up_n (by omega)).trans hw.h45
  · exact (va_up_n (by omega)).trans hw.h46
  · exact (va_up_n (by omega)).trans hw.h47
  · exact (va_up_n (by omega)).trans hw.h48
  · exact (va_up_n (by omega)).trans hw.h49
  · exact (va_up_n (by omega)).trans hw.h50
  · exact (va_up_n (by omega)).trans hw.h51
  · exact (va_up_n (by omega)).trans hw.h52
  · exact va_up_s
  · exact hw.jk
  · exact fun j hj => (va_up_n (by omega)).trans (hw.fr j hj)
