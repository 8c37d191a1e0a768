def exB (s : St) (f p x : Nat) (F L : Int) (y : Nat) : Int := cB s p x y * F - cB s f x y * L
def ryN (s : St) (f p x : Nat) (F L : Int) (lo : Nat) : Nat → Int × Int
  | 0 => (-1, 0)
  | n + 1 => if uR s f x (lo + n) = true ∧ ((ryN s f p x F L lo n).1 = -1 ∨ (ryN s f p x F L lo n).2 < exB s f p x F L (lo + n)) then (((lo + n : Nat) : Int), exB s f p x F L (lo + n)) else ryN s f p x F L lo n
theorem exB_in {s : St} {f p x y : Nat} {F L : Int} (hF : 0 ≤ F ∧ F ≤ 2000000) (hL : 0 ≤ L ∧ L ≤ 2000000) : -200000000000 ≤ exB s f p x F L y ∧ exB s f p x F L y ≤ 200000000000 := by
  have h1 := cB_in s p x y
  have h2 := cB_in s f x y
  have a1 : 0 ≤ cB s p x y * F := Int.mul_nonneg h1.1 hF.1
  have a2 : cB s p x y * F ≤ 100000 * 2000000 := Int.mul_le_mul h1.2 hF.2 hF.1 (by omega)
  have b1 : 0 ≤ cB s f x y * L := Int.mul_nonneg h2.1 hL.1
  have b2 : cB s f x y * L ≤ 100000 * 2000000 := Int.mul_le_mul h2.2 hL.2 hL.1 (by omega)
  unfold exB
  omega
theorem ryN_in {s : St} {f p x : Nat} {F L : Int} {lo : Nat} (hF : 0 ≤ F ∧ F ≤ 2000000) (hL : 0 ≤ L ∧ L ≤ 2000000) : ∀ n, ((ryN s f p x F L lo n).1 = -1 ∨ ((lo : Int) ≤ (ryN s f p x F L lo n).1 ∧ (ryN s f p x F L lo n).1 < (lo : Int) + n)) ∧ -200000000000 ≤ (ryN s f p x F L lo n).2 ∧ (ryN s f p x F L lo n).2 ≤ 200000000000
  | 0 => by simp [ryN]
  | n + 1 => by
    have h1 := ryN_in (s := s) (f := f) (p := p) (x := x) (lo := lo) hF hL n
    have h2 := exB_in (s := s) (f := f) (p := p) (x := x) (y := lo + n) hF hL
    simp only [ryN]
    split
    · dsimp only
      omega
    · omega
def rayE (s : St) (f p x : Nat) (F L : Int) (lo n : Nat) (k : Int) : Int := if (ryN s f p x F L lo n).1 = -1 ∨ (ryN s f p x F L lo n).2 ≤ k * cB s f x (ryN s f p x F L lo n).1.toNat * L then -1 else (ryN s f p x F L lo n).1

set_option maxHeartbeats 4000000 in
set_option maxRecDepth 100000 in
theorem l_ray {G : eG} {ad : Nat → Nat} {h : Nat → va_E} {s : St} {z : Zc} {hm : Nat → va_E} (hw : CW G ad s z hm h) (c p f x : Nat) (k F L : Int) (hI : Inv s) (hc : c < 4) (hp : p < 6) (hf : f < 6) (hx : x < s_w s f) (hsw : s_w s p = s_w s f) (hsh : s_h s p = s_h s f) (hk : 0 ≤ k ∧ k ≤ 100) (hF : 0 ≤ F ∧ F ≤ 2000000) (hL : 0 ≤ L ∧ L ≤ 2000000) (hzF : c_sf z = jI F) (hzL : c_sl z = jI L) : ∀ (n i : Nat) (v11 : Option Value), i + n = rM s c f x → EV G M_X4_rayRow cX4_rayRow none ad 54 (IS (some (.int (iI (rayE s f p x F L (rLo s c f x) (rM s c f x) k)))) h) 24 [some (.ref (ad 0)), some (.ref (ad (22 + 3 * c))), some (.ref (ad (10 + 2 * p))), some (.ref (ad (10 + 2 * f))), some (.int (nI x)), some (.int (iI k)), some (.int (iI (ryN s f p x F L (rLo s c f x) i).1)), some (.long (jI (ryN s f p x F L (rLo s c f x) i).2)), none, some (.int (iI (rHi s c f x))), some (.int (nI (rLo s c f x + i))), v11, none] [] h := by
  have hb := hI.2.2.2.1 c hc
  have hdf := hI.1 f hf
  have hdp := hI.1 p hp
  have r1 := rLo_in hI hc hf hx
  have r2 := rHi_in hI hc hf hx
  have r3 := rM_in hI hc hf hx
  intro n
  induction n with
  | zero =>
    intro i v11 hi
    have ei : i = rM s c f x := by omega
    subst ei
    have q1 := ryN_in (s := s) (f := f) (p := p) (x := x) (lo := rLo s c f x) hF hL (rM s c f x)
    generalize hr : (ryN s f p x F L (rLo s c f x) (rM s c f x)) = r at q1 ⊢
    refine EV.iload (pc := 24) dX4_rayRow_24 rfl ?_
    refine EV.iload (pc := 26) dX4_rayRow_26 rfl ?_
    refine EV.icmp_gt (pc := 28) (tgt := 106) dX4_rayRow_28 (by decide) (fun _ => ?_) (fun q => absurd (by rw [nI_iI, iI_lt (by omega) (by omega) (by omega) (by omega)]; omega) q)
    refine EV.iload (pc := 106) dX4_rayRow_106 rfl ?_
    refine EV.iconst (pc := 108) (v := -1) dX4_rayRow_108 (by decide) ?_
    refine EV.icmp_eq (pc := 109) (tgt := 138) dX4_rayRow_109 (by decide) (fun c109 => ?_) (fun c109 => ?_)
    · refine EV.iconst (pc := 138) (v := -1) dX4_rayRow_138 (by decide) ?_
      refine EV.iret (pc := 139) dX4_rayRow_139 trivial ?_
      refine ⟨congrArg (fun z => some (Value.int z)) ?_, rfl⟩
      unfold rayE
      rw [hr]
      first | (rw [jI_lt (by omega) (by omega) (by omega) (by omega)] at c134; rw [if_pos (Or.inr (by rw [ey1, Int.toNat_natCast]; omega))]; rfl) | (rw [show (-1 : Int32) = iI (-1) from rfl, iI_eq (by omega) (by omega) (by omega) (by omega)] at c109; rw [if_pos (Or.inl c109)]; rfl)
    · rw [show (-1 : Int32) = iI (-1) from rfl, iI_eq (by omega) (by omega) (by omega) (by omega)] at c109
      obtain ⟨y1, ey1⟩ : ∃ y1 : Nat, r.1 = (y1 : Int) := ⟨r.1.toNat, by omega⟩
      have hcb := cB_in s f x y1
      refine EV.lload (pc := 112) dX4_rayRow_112 rfl ?_
      refine EV.iload (pc := 114) dX4_rayRow_114 rfl ?_
      refine EV.i2l (pc := 116) dX4_rayRow_116 ?_
      refine EV.topl (y := jI k) (iI_l (by omega) (by omega)) ?_
      refine EV.aload_n (pc := 117) dX4_rayRow_117 rfl ?_
      refine EV.iload (pc := 118) dX4_rayRow_118 rfl ?_
      refine EV.iload (pc := 120) dX4_rayRow_120 rfl ?_
      refine EV.topi (y := nI y1) (by rw [ey1, nI_iI]) ?_
      refine EV.callVR1 (pc := 122) (M' := M_X2_lightAt) dX4_rayRow_122 lkX4_249 okV_X2_lightAt (m_plight (10 + 2 * f) (11 + 2 * f) (b2i (s_lost s f)) (s_lane s f) (s_w s f) (s_h s f) (s_ct s f) _ _ (by omega) (by omega) hdf.1 hdf.2.1 (hw.pl' hf) (hw.ct f hf)) (by decide) rfl rfl (Nat.le_of_ble_eq_true rfl) (show 10 + 2 * f < 54 by omega) (hw.pl' hf) ?_
      refine EV.topl (y := jI (cB s f x y1)) (by rw [pAt_n hx (by omega) hdf.1 hdf.2.1]; rfl) ?_
      refine EV.lmul (pc := 125) dX4_rayRow_125 ?_
      refine EV.aload_n (pc := 126) dX4_rayRow_126 rfl ?_
      refine EV.getf (pc := 127) dX4_rayRow_127 fgX4_42 (by decide) hw.h0 rfl ?_
      refine EV.getf (pc := 130) dX4_rayRow_130 fgX4_288 (by decide) hw.h8 rfl ?_
      refine EV.topl (y := jI L) hzL ?_
      refine EV.lmul (pc := 133) dX4_rayRow_133 ?_
      refine EV.topl (y := jI (k * cB s f x y1 * L)) (by rw [jI_mul, jI_mul]) ?_
      have b1 : 0 ≤ k * cB s f x y1 := Int.mul_nonneg hk.1 hcb.1
      have b2 : k * cB s f x y1 ≤ 100 * 100000 := Int.mul_le_mul hk.2 hcb.2 hcb.1 (by omega)
      have b3 : 0 ≤ k * cB s f x y1 * L := Int.mul_nonneg b1 hL.1
      have b4 : k * cB s f x y1 * L ≤ 10000000 * 2000000 := Int.mul_le_mul (by omega) hL.2 hL.1 (by omega)
      refine EV.lcmp_gt (pc := 134) (tgt := 140) dX4_rayRow_134 dX4_rayRow_135 (by decide) (fun c134 => ?_) (fun c134 => ?_)
      · refine EV.iload (pc := 140) dX4_rayRow_140 rfl ?_
        refine EV.iret (pc := 142) dX4_rayRow_142 trivial ?_
        refine ⟨congrArg (fun z => some (Value.int z)) ?_, rfl⟩
        unfold rayE
        rw [hr]
        rw [jI_lt (by omega) (by omega) (by omega) (by omega)] at c134
        rw [if_neg (by rw [ey1, Int.toNat_natCast]; omega)]
      · refine EV.iconst (pc := 138) (v := -1) dX4_rayRow_138 (by decide) ?_
        refine EV.iret (pc := 139) dX4_rayRow_139 trivial ?_
        refine ⟨congrArg (fun z => some (Value.int z)) ?_, rfl⟩
        unfold rayE
        rw [hr]
        first | (rw [jI_lt (by omega) (by omega) (by omega) (by omega)] at c134; rw [if_pos (Or.inr (by rw [ey1, Int.toNat_natCast]; omega))]; rfl) | (rw [show (-1 : Int32) = iI (-1) from rfl, iI_eq (by omega) (by omega) (by omega) (by omega)] at c109; rw [if_pos (Or.inl c109)]; rfl)
  | succ n ih =>
    intro i v11 hi
    have hi2 : i < rM s c f x := by omega
    have q1 := ryN_in (s := s) (f := f) (p := p) (x := x) (lo := rLo s c f x) hF hL i
    have q2 := exB_in (s := s) (f := f) (p := p) (x := x) (y := (rLo s c f x + i)) hF hL
    refine EV.iload (pc := 24) dX4_rayRow_24 rfl ?_
    refine EV.iload (pc := 26) dX4_rayRow_26 rfl ?_
    refine EV.icmp_gt (pc := 28) (tgt := 106) dX4_rayRow_28 (by decide) (fun q => absurd q (by rw [nI_iI, iI_lt (by omega) (by omega) (by omega) (by omega)]; omega)) (fun _ => ?_)
    refine EV.aload_n (pc := 31) dX4_rayRow_31 rfl ?_
    refine EV.aload_n (pc := 32) dX4_rayRow_32 rfl ?_
    refine EV.iload (pc := 33) dX4_rayRow_33 rfl ?_
    refine EV.iload (pc := 35) dX4_rayRow_35 rfl ?_
    refine EV.callVR1 (pc := 37) (M' := M_X4_counts) dX4_rayRow_37 lkX4_276 okV_X4_counts (m_counts hw f x (rLo s c f x + i) hI hf hx (by omega)) (by decide) rfl rfl (Nat.le_of_ble_eq_true rfl) (by decide) hw.h0 ?_
    refine EV.if_eq (pc := 40) (tgt := 100) dX4_rayRow_40 (by decide) (fun c40 => ?_) (fun c40 => ?_)
    · replace c40 := b2i_eq c40
      refine EV.iinc (pc := 100) dX4_rayRow_100 (by decide) rfl (by first | exact nI_inc _ | rfl) (by dsimp only [lst1, lk] <;> rfl) ?_
      refine EV.goto (pc := 103) (tgt := 24) dX4_rayRow_103 (by decide) ?_
      first
      | (refine EV.eq rfl ?_ rfl rfl (ih (i + 1) (some (.long (jI (exB s f p x F L (rLo s c f x + i))))) (by omega)); simp only [ryN]; rw [jI_le (by omega) (by omega) (by omega) (by omega)] at c88; rw [show (-1 : Int32) = iI (-1) from rfl, iI_eq (by omega) (by omega) (by omega) (by omega)] at c81; first | (rw [if_neg (by rw [c40]; omega)] <;> rfl) | (rw [if_pos ⟨c40, by omega⟩]; dsimp only; rw [← nI_iI (rLo s c f x + i)] <;> rfl))
      | (refine EV.eq rfl ?_ rfl rfl (ih (i + 1) (some (.long (jI (exB s f p x F L (rLo s c f x + i))))) (by omega)); simp only [ryN]; rw [show (-1 : Int32) = iI (-1) from rfl, iI_eq (by omega) (by omega) (by omega) (by omega)] at c81; rw [if_pos ⟨c40, Or.inl c81⟩]; dsimp only; rw [← nI_iI (rLo s c f x + i)] <;> rfl)
      | (refine EV.eq rfl ?_ rfl rfl (ih (i + 1) v11 (by omega)); simp only [ryN]; rw [if_neg (by rw [c40]; simp)] <;> rfl)
    · replace c40 := b2i_ne c40
      refine EV.aload_n (pc := 43) dX4_rayRow_43 rfl ?_
      refine EV.iload (pc := 44) dX4_rayRow_44 rfl ?_
      refine EV.iload (pc := 46) dX4_rayRow_46 rfl ?_
      refine EV.callVR1 (pc := 48) (M' := M_X2_lightAt) dX4_rayRow_48 lkX4_249 okV_X2_lightAt (m_plight (10 + 2 * p) (11 + 2 * p) (b2i (s_lost s p)) (s_lane s p) (s_w s p) (s_h s p) (s_ct s p) _ _ (by omega) (by omega) hdp.1 hdp.2.1 (hw.pl' hp) (hw.ct p hp)) (by decide) rfl rfl (Nat.le_of_ble_eq_true rfl) (show 10 + 2 * p < 54 by omega) (hw.pl' hp) ?_
      refine EV.topl (y := jI (cB s p x (rLo s c f x + i))) (by rw [pAt_n (by omega) (by omega) hdp.1 hdp.2.1]; rfl) ?_
      refine EV.aload_n (pc := 51) dX4_rayRow_51 rfl ?_
      refine EV.getf (pc := 52) dX4_rayRow_52 fgX4_42 (by decide) hw.h0 rfl ?_
      refine EV.getf (pc := 55) dX4_rayRow_55 fgX4_284 (by decide) hw.h8 rfl ?_
      refine EV.topl (y := jI F) hzF ?_
      refine EV.lmul (pc := 58) dX4_rayRow_58 ?_
      refine EV.aload_n (pc := 59) dX4_rayRow_59 rfl ?_
      refine EV.iload (pc := 60) dX4_rayRow_60 rfl ?_
      refine EV.iload (pc := 62) dX4_rayRow_62 rfl ?_
      refine EV.callVR1 (pc := 64) (M' := M_X2_lightAt) dX4_rayRow_64 lkX4_249 okV_X2_lightAt (m_plight (10 + 2 * f) (11 + 2 * f) (b2i (s_lost s f)) (s_lane s f) (s_w s f) (s_h s f) (s_ct s f) _ _ (by omega) (by omega) hdf.1 hdf.2.1 (hw.pl' hf) (hw.ct f hf)) (by decide) rfl rfl (Nat.le_of_ble_eq_true rfl) (show 10 + 2 * f < 54 by omega) (hw.pl' hf) ?_
      refine EV.topl (y := jI (cB s f x (rLo s c f x + i))) (by rw [pAt_n (by omega) (by omega) hdf.1 hdf.2.1]; rfl) ?_
      refine EV.aload_n (pc := 67) dX4_rayRow_67 rfl ?_
      refine EV.getf (pc := 68) dX4_rayRow_68 fgX4_42 (by decide) hw.h0 rfl ?_
      refine EV.getf (pc := 71) dX4_rayRow_71 fgX4_288 (by decide) hw.h8 rfl ?_
      refine EV.topl (y := jI L) hzL ?_
      refine EV.lmul (pc := 74) dX4_rayRow_74 ?_
      refine EV.lsub (pc := 75) dX4_rayRow_75 ?_
      refine EV.topl (y := jI (exB s f p x F L (rLo s c f x + i))) (by rw [jI_mul, jI_mul, jI_sub]; rfl) ?_
      refine EV.lstore (pc := 76) dX4_rayRow_76 (by decide) (by dsimp only [lst2, lno, lk] <;> rfl) ?_
      refine EV.iload (pc := 78) dX4_rayRow_78 rfl ?_
      refine EV.iconst (pc := 80) (v := -1) dX4_rayRow_80 (by decide) ?_
      refine EV.icmp_eq (pc := 81) (tgt := 92) dX4_rayRow_81 (by decide) (fun c81 => ?_) (fun c81 => ?_)
      · refine EV.iload (pc := 92) dX4_rayRow_92 rfl ?_
        refine EV.istore (pc := 94) dX4_rayRow_94 (by decide) (by dsimp only [lst1, lk] <;> rfl) ?_
        refine EV.lload (pc := 96) dX4_rayRow_96 rfl ?_
        refine EV.lstore (pc := 98) dX4_rayRow_98 (by decide) (by dsimp only [lst2, lno, lk] <;> rfl) ?_
        refine EV.iinc (pc := 100) dX4_rayRow_100 (by decide) rfl (by first | exact nI_inc _ | rfl) (by dsimp only [lst1, lk] <;> rfl) ?_
        refine EV.goto (pc := 103) (tgt := 24) dX4_rayRow_103 (by decide) ?_
        first
        | (refine EV.eq rfl ?_ rfl rfl (ih (i + 1) (some (.long (jI (exB s f p x F L (rLo s c f x + i))))) (by omega)); simp only [ryN]; rw [jI_le (by omega) (by omega) (by omega) (by omega)] at c88; rw [show (-1 : Int32) = iI (-1) from rfl, iI_eq (by omega) (by omega) (by omega) (by omega)] at c81; first | (rw [if_neg (by rw [c40]; omega)] <;> rfl) | (rw [if_pos ⟨c40, by omega⟩]; dsimp only; rw [← nI_iI (rLo s c f x + i)] <;> rfl))
        | (refine EV.eq rfl ?_ rfl rfl (ih (i + 1) (some (.long (jI (exB s f p x F L (rLo s c f x + i))))) (by omega)); simp only [ryN]; rw [show (-1 : Int32) = iI (-1) from rfl, iI_eq (by omega) (by omega) (by omega) (by omega)] at c81; rw [if_pos ⟨c40, Or.inl c81⟩]; dsimp only; rw [← nI_iI (rLo s c f x + i)] <;> rfl)
        | (refine EV.eq rfl ?_ rfl rfl (ih (i + 1) v11 (by omega)); simp only [ryN]; rw [if_neg (by rw [c40]; simp)] <;> rfl)
      · refine EV.lload (pc := 84) dX4_rayRow_84 rfl ?_
        refine EV.lload (pc := 86) dX4_rayRow_86 rfl ?_
        refine EV.lcmp_le (pc := 88) (tgt := 100) dX4_rayRow_88 dX4_rayRow_89 (by decide) (fun c88 => ?_) (fun c88 => ?_)
        · refine EV.iinc (pc := 100) dX4_rayRow_100 (by decide) rfl (by first | exact nI_inc _ | rfl) (by dsimp only [lst1, lk] <;> rfl) ?_
          refine EV.goto (pc := 103) (tgt := 24) dX4_rayRow_103 (by decide) ?_
          first
          | (refine EV.eq rfl ?_ rfl rfl (ih (i + 1) (some (.long (jI (exB s f p x F L (rLo s c f x + i))))) (by omega)); simp only [ryN]; rw [jI_le (by omega) (by omega) (by omega) (by omega)] at c88; rw [show (-1 : Int32) = iI (-1) from rfl, iI_eq (by omega) (by omega) (by omega) (by omega)] at c81; first | (rw [if_neg (by rw [c40]; omega)] <;> rfl) | (rw [if_pos ⟨c40, by omega⟩]; dsimp only; rw [← nI_iI (rLo s c f x + i)] <;> rfl))
          | (refine EV.eq rfl ?_ rfl rfl (ih (i + 1) (some (.long (jI (exB s f p x F L (rLo s c f x + i))))) (by omega)); simp only [ryN]; rw [show (-1 : Int32) = iI (-1) from rfl, iI_eq (by omega) (by omega) (by omega) (by omega)] at c81; rw [if_pos ⟨c40, Or.inl c81⟩]; dsimp only; rw [← nI_iI (rLo s c f x + i)] <;> rfl)
          | (refine EV.eq rfl ?_ rfl rfl (ih (i + 1) v11 (by omega)); simp only [ryN]; rw [if_neg (by rw [c40]; simp)] <;> rfl)
        · refine EV.iload (pc := 92) dX4_rayRow_92 rfl ?_
          refine EV.istore (pc := 94) dX4_rayRow_94 (by decide) (by dsimp only [lst1, lk] <;> rfl) ?_
          refine EV.lload (pc := 96) dX4_rayRow_96 rfl ?_
          refine EV.lstore (pc := 98) dX4_rayRow_98 (by decide) (by dsimp only [lst2, lno, lk] <;> rfl) ?_
          refine EV.iinc (pc := 100) dX4_rayRow_100 (by decide) rfl (by first | exact nI_inc _ | rfl) (by dsimp only [lst1, lk] <;> rfl) ?_
          refine EV.goto (pc := 103) (tgt := 24) dX4_rayRow_103 (by decide) ?_
          first
          | (refine EV.eq rfl ?_ rfl rfl (ih (i + 1) (some (.long (jI (exB s f p x F L (rLo s c f x + i))))) (by omega)); simp only [ryN]; rw [jI_le (by omega) (by omega) (by omega) (by omega)] at c88; rw [show (-1 : Int32) = iI (-1) from rfl, iI_eq (by omega) (by omega) (by omega) (by omega)] at c81; first | (rw [if_neg (by rw [c40]; omega)] <;> rfl) | (rw [if_pos ⟨c40, by omega⟩]; dsimp only; rw [← nI_iI (rLo s c f x + i)] <;> rfl))
          | (refine EV.eq rfl ?_ rfl rfl (ih (i + 1) (some (.long (jI (exB s f p x F L (rLo s c f x + i))))) (by omega)); simp only [ryN]; rw [show (-1 : Int32) = iI (-1) from rfl, iI_eq (by omega) (by omega) (by omega) (by omega)] at c81; rw [if_pos ⟨c40, Or.inl c81⟩]; dsimp only; rw [← nI_iI (rLo s c f x + i)] <;> rfl)
          | (refine EV.eq rfl ?_ rfl rfl (ih (i + 1) v11 (by omega)); simp only [ryN]; rw [if_neg (by rw [c40]; simp)] <;> rfl)
