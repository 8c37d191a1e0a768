def cnt (p : Nat → Bool) : Nat → Nat
  | 0 => 0
  | n + 1 => cnt p n + if p n = true then 1 else 0
theorem cnt_le (p : Nat → Bool) : ∀ n, cnt p n ≤ n
  | 0 => Nat.le_refl 0
  | n + 1 => by
    have := cnt_le p n
    simp only [cnt]
    split <;> omega

set_option maxHeartbeats 4000000 in
set_option maxRecDepth 100000 in
theorem l_plateCount {G : eG} {ad : Nat → Nat} {h : Nat → va_E} {s : St} {z : Zc} {hm : Nat → va_E} (hw : CW G ad s z hm h)   : ∀ (n i : Nat), i + n = 6 → EV G M_X4_plateCount cX4_plateCount none ad 54 (IS (some (.int (nI (cnt (fun p => !(s_lost s p)) 6)))) h) 4 [some (.ref (ad 0)), some (.int (nI (cnt (fun p => !(s_lost s p)) i))), some (.int (nI i))] [] h := by
  intro n
  induction n with
  | zero =>
    intro i hi
    have e : i = 6 := by omega
    subst e
    refine EV.iload_n (pc := 4) dX4_plateCount_4 rfl ?_
    refine EV.bipush (pc := 5) (v := 6) dX4_plateCount_5 (by decide) ?_
    refine EV.icmp_ge (pc := 7) (tgt := 31) dX4_plateCount_7 (by decide) (fun _ => ?_) (fun q => absurd ((nI_leI (a := 6) (b := 6) (by omega) (by omega)).mpr (by omega)) q)
    refine EV.iload_n (pc := 31) dX4_plateCount_31 rfl ?_
    exact EV.iret (pc := 32) dX4_plateCount_32 trivial ⟨rfl, rfl⟩
  | succ n ih =>
    intro i hi
    have hi2 : i < 6 := by omega
    refine EV.iload_n (pc := 4) dX4_plateCount_4 rfl ?_
    refine EV.bipush (pc := 5) (v := 6) dX4_plateCount_5 (by decide) ?_
    refine EV.icmp_ge (pc := 7) (tgt := 31) dX4_plateCount_7 (by decide) (fun q => absurd q (fun z => absurd ((nI_leI (a := 6) (b := i) (by omega) (by omega)).mp z) (by omega))) (fun _ => ?_)
    refine EV.aload_n (pc := 10) dX4_plateCount_10 rfl ?_
    refine EV.getf (pc := 11) dX4_plateCount_11 fgX4_11 (by decide) hw.h0 rfl ?_
    refine EV.iload_n (pc := 14) dX4_plateCount_14 rfl ?_
    refine EV.aald (pc := 15) (t0 := 3) dX4_plateCount_15 rfl (by decide) hw.h1 (vp_in_nI (show i < 6 by omega) (by omega)) (v := .ref (ad (10 + 2 * i))) (by rw [nI_clamp (by omega)]; rfl) ?_
    refine EV.getf (pc := 16) dX4_plateCount_16 fgX4_71 (show 10 + 2 * i < 54 by omega) (hw.pl' hi2) rfl ?_
    refine EV.if_ne (pc := 19) (tgt := 25) dX4_plateCount_19 (by decide) (fun c19 => ?_) (fun c19 => ?_)
    · replace c19 := b2i_ne c19
      refine EV.iinc (pc := 25) dX4_plateCount_25 (by decide) rfl (by first | exact nI_inc _ | rfl) (by dsimp only [lst1, lk] <;> rfl) ?_
      refine EV.goto (pc := 28) (tgt := 4) dX4_plateCount_28 (by decide) ?_
      refine EV.eq rfl ?_ rfl rfl (ih (i + 1) (by omega))
      simp [cnt, c19]
    · replace c19 := b2i_eq c19
      refine EV.iinc (pc := 22) dX4_plateCount_22 (by decide) rfl (by first | exact nI_inc _ | rfl) (by dsimp only [lst1, lk] <;> rfl) ?_
      refine EV.iinc (pc := 25) dX4_plateCount_25 (by decide) rfl (by first | exact nI_inc _ | rfl) (by dsimp only [lst1, lk] <;> rfl) ?_
      refine EV.goto (pc := 28) (tgt := 4) dX4_plateCount_28 (by decide) ?_
      refine EV.eq rfl ?_ rfl rfl (ih (i + 1) (by omega))
      simp [cnt, c19]

set_option maxHeartbeats 4000000 in
set_option maxRecDepth 100000 in
theorem m_plateCount {G : eG} {ad : Nat → Nat} {h : Nat → va_E} {s : St} {z : Zc} {hm : Nat → va_E} (hw : CW G ad s z hm h) (hI : Inv s)   : MC G M_X4_plateCount cX4_plateCount ad 54 [.ref (ad 0)] h (IS (some (.int (nI (cnt (fun p => !(s_lost s p)) 6)))) h) := by
  refine MC.of (by decide +kernel) (Nat.le_of_ble_eq_true rfl) (by dsimp only [linit, Nat.reduceSub, List.reduceReplicate] <;> rfl) ?_
  refine EV.iconst (pc := 0) (v := 0) dX4_plateCount_0 (by decide) ?_
  refine EV.istore_n (pc := 1) 1 dX4_plateCount_1 rfl (by decide) (by dsimp only [lst1, lk] <;> rfl) ?_
  refine EV.iconst (pc := 2) (v := 0) dX4_plateCount_2 (by decide) ?_
  refine EV.istore_n (pc := 3) 2 dX4_plateCount_3 rfl (by decide) (by dsimp only [lst1, lk] <;> rfl) ?_
  exact l_plateCount hw 6 0 rfl

set_option maxHeartbeats 4000000 in
set_option maxRecDepth 100000 in
theorem l_badCount {G : eG} {ad : Nat → Nat} {h : Nat → va_E} {s : St} {z : Zc} {hm : Nat → va_E} (hw : CW G ad s z hm h)   : ∀ (n i : Nat), i + n = 400 → EV G M_X4_badCount cX4_badCount none ad 54 (IS (some (.int (nI (cnt (s_bad s) 400)))) h) 4 [some (.ref (ad 0)), some (.int (nI (cnt (s_bad s) i))), some (.int (nI i))] [] h := by
  intro n
  induction n with
  | zero =>
    intro i hi
    have e : i = 400 := by omega
    subst e
    refine EV.iload_n (pc := 4) dX4_badCount_4 rfl ?_
    refine EV.aload_n (pc := 5) dX4_badCount_5 rfl ?_
    refine EV.getf (pc := 6) dX4_badCount_6 fgX4_15 (by decide) hw.h0 rfl ?_
    refine EV.alen (pc := 9) (t0 := 2) dX4_badCount_9 rfl (by decide) hw.h2 (v := nI 400) rfl ?_
    refine EV.icmp_ge (pc := 10) (tgt := 31) dX4_badCount_10 (by decide) (fun _ => ?_) (fun q => absurd ((nI_leI (a := 400) (b := 400) (by omega) (by omega)).mpr (by omega)) q)
    refine EV.iload_n (pc := 31) dX4_badCount_31 rfl ?_
    exact EV.iret (pc := 32) dX4_badCount_32 trivial ⟨rfl, rfl⟩
  | succ n ih =>
    intro i hi
    have hi2 : i < 400 := by omega
    refine EV.iload_n (pc := 4) dX4_badCount_4 rfl ?_
    refine EV.aload_n (pc := 5) dX4_badCount_5 rfl ?_
    refine EV.getf (pc := 6) dX4_badCount_6 fgX4_15 (by decide) hw.h0 rfl ?_
    refine EV.alen (pc := 9) (t0 := 2) dX4_badCount_9 rfl (by decide) hw.h2 (v := nI 400) rfl ?_
    refine EV.icmp_ge (pc := 10) (tgt := 31) dX4_badCount_10 (by decide) (fun q => absurd q (fun z => absurd ((nI_leI (a := 400) (b := i) (by omega) (by omega)).mp z) (by omega))) (fun _ => ?_)
    refine EV.aload_n (pc := 13) dX4_badCount_13 rfl ?_
    refine EV.getf (pc := 14) dX4_badCount_14 fgX4_15 (by decide) hw.h0 rfl ?_
    refine EV.iload_n (pc := 17) dX4_badCount_17 rfl ?_
    refine EV.zald (pc := 18) dX4_badCount_18 (by decide) hw.h2 (vp_in_nI (by omega) (by omega)) ?_
    refine EV.topi (y := b2i (s_bad s i)) (by rw [nI_clamp (by omega)]) ?_
    refine EV.if_eq (pc := 19) (tgt := 25) dX4_badCount_19 (by decide) (fun c19 => ?_) (fun c19 => ?_)
    · replace c19 := b2i_eq c19
      refine EV.iinc (pc := 25) dX4_badCount_25 (by decide) rfl (by first | exact nI_inc _ | rfl) (by dsimp only [lst1, lk] <;> rfl) ?_
      refine EV.goto (pc := 28) (tgt := 4) dX4_badCount_28 (by decide) ?_
      refine EV.eq rfl ?_ rfl rfl (ih (i + 1) (by omega))
      simp [cnt, c19]
    · replace c19 := b2i_ne c19
      refine EV.iinc (pc := 22) dX4_badCount_22 (by decide) rfl (by first | exact nI_inc _ | rfl) (by dsimp only [lst1, lk] <;> rfl) ?_
      refine EV.iinc (pc := 25) dX4_badCount_25 (by decide) rfl (by first | exact nI_inc _ | rfl) (by dsimp only [lst1, lk] <;> rfl) ?_
      refine EV.goto (pc := 28) (tgt := 4) dX4_badCount_28 (by decide) ?_
      refine EV.eq rfl ?_ rfl rfl (ih (i + 1) (by omega))
      simp [cnt, c19]

set_option maxHeartbeats 4000000 in
set_option maxRecDepth 100000 in
theorem m_badCount {G : eG} {ad : Nat → Nat} {h : Nat → va_E} {s : St} {z : Zc} {hm : Nat → va_E} (hw : CW G ad s z hm h) (hI : Inv s)   : MC G M_X4_badCount cX4_badCount ad 54 [.ref (ad 0)] h (IS (some (.int (nI (cnt (s_bad s) 400)))) h) := by
  refine MC.of (by decide +kernel) (Nat.le_of_ble_eq_true rfl) (by dsimp only [linit, Nat.reduceSub, List.reduceReplicate] <;> rfl) ?_
  refine EV.iconst (pc := 0) (v := 0) dX4_badCount_0 (by decide) ?_
  refine EV.istore_n (pc := 1) 1 dX4_badCount_1 rfl (by decide) (by dsimp only [lst1, lk] <;> rfl) ?_
  refine EV.iconst (pc := 2) (v := 0) dX4_badCount_2 (by decide) ?_
  refine EV.istore_n (pc := 3) 2 dX4_badCount_3 rfl (by decide) (by dsimp only [lst1, lk] <;> rfl) ?_
  exact l_badCount hw 400 0 rfl

set_option maxHeartbeats 4000000 in
set_option maxRecDepth 100000 in
theorem l_lawCount {G : eG} {ad : Nat → Nat} {h : Nat → va_E} {s : St} {z : Zc} {hm : Nat → va_E} (hw : CW G ad s z hm h)  (hcn : s_cn s ≤ 4) : ∀ (n i : Nat), i + n = s_cn s → EV G M_X4_lawCount cX4_lawCount none ad 54 (IS (some (.int (nI (cnt (s_li s) (s_cn s))))) h) 4 [some (.ref (ad 0)), some (.int (nI (cnt (s_li s) i))), some (.int (nI i))] [] h := by
  intro n
  induction n with
  | zero =>
    intro i hi
    have e : i = s_cn s := by omega
    subst e
    refine EV.iload_n (pc := 4) dX4_lawCount_4 rfl ?_
    refine EV.aload_n (pc := 5) dX4_lawCount_5 rfl ?_
    refine EV.getf (pc := 6) dX4_lawCount_6 fgX4_110 (by decide) hw.h0 rfl ?_
    refine EV.icmp_ge (pc := 9) (tgt := 36) dX4_lawCount_9 (by decide) (fun _ => ?_) (fun q => absurd ((nI_leI (by omega) (by omega)).mpr (Nat.le_refl _)) q)
    refine EV.iload_n (pc := 36) dX4_lawCount_36 rfl ?_
    exact EV.iret (pc := 37) dX4_lawCount_37 trivial ⟨rfl, rfl⟩
  | succ n ih =>
    intro i hi
    have hi2 : i < s_cn s := by omega
    refine EV.iload_n (pc := 4) dX4_lawCount_4 rfl ?_
    refine EV.aload_n (pc := 5) dX4_lawCount_5 rfl ?_
    refine EV.getf (pc := 6) dX4_lawCount_6 fgX4_110 (by decide) hw.h0 rfl ?_
    refine EV.icmp_ge (pc := 9) (tgt := 36) dX4_lawCount_9 (by decide) (fun q => absurd q (fun z => absurd ((nI_leI (a := s_cn s) (b := i) (by omega) (by omega)).mp z) (by omega))) (fun _ => ?_)
    refine EV.aload_n (pc := 12) dX4_lawCount_12 rfl ?_
    refine EV.getf (pc := 13) dX4_lawCount_13 fgX4_21 (by decide) hw.h0 rfl ?_
    refine EV.iload_n (pc := 16) dX4_lawCount_16 rfl ?_
    refine EV.aald (pc := 17) (t0 := 4) dX4_lawCount_17 rfl (by decide) hw.h3 (vp_in_nI (show i < 4 by omega) (by omega)) (v := .ref (ad (22 + 3 * i))) (by rw [nI_clamp (by omega)]; rfl) ?_
    refine EV.getf (pc := 18) dX4_lawCount_18 fgX4_151 (show 22 + 3 * i < 54 by omega) (hw.kb' (show i < 4 by omega)) rfl ?_
    refine EV.getf (pc := 21) dX4_lawCount_21 fgX4_182 (show 24 + 3 * i < 54 by omega) (hw.lw' (show i < 4 by omega)) rfl ?_
    refine EV.if_eq (pc := 24) (tgt := 30) dX4_lawCount_24 (by decide) (fun c24 => ?_) (fun c24 => ?_)
    · replace c24 := b2i_eq c24
      refine EV.iinc (pc := 30) dX4_lawCount_30 (by decide) rfl (by first | exact nI_inc _ | rfl) (by dsimp only [lst1, lk] <;> rfl) ?_
      refine EV.goto (pc := 33) (tgt := 4) dX4_lawCount_33 (by decide) ?_
      refine EV.eq rfl ?_ rfl rfl (ih (i + 1) (by omega))
      simp [cnt, c24]
    · replace c24 := b2i_ne c24
      refine EV.iinc (pc := 27) dX4_lawCount_27 (by decide) rfl (by first | exact nI_inc _ | rfl) (by dsimp only [lst1, lk] <;> rfl) ?_
      refine EV.iinc (pc := 30) dX4_lawCount_30 (by decide) rfl (by first | exact nI_inc _ | rfl) (by dsimp only [lst1, lk] <;> rfl) ?_
      refine EV.goto (pc := 33) (tgt := 4) dX4_lawCount_33 (by decide) ?_
      refine EV.eq rfl ?_ rfl rfl (ih (i + 1) (by omega))
      simp [cnt, c24]

set_option maxHeartbeats 4000000 in
set_option maxRecDepth 100000 in
theorem m_lawCount {G : eG} {ad : Nat → Nat} {h : Nat → va_E} {s : St} {z : Zc} {hm : Nat → va_E} (hw : CW G ad s z hm h) (hI : Inv s)   : MC G M_X4_lawCount cX4_lawCount ad 54 [.ref (ad 0)] h (IS (some (.int (nI (cnt (s_li s) (s_cn s))))) h) := by
  have hcn : s_cn s ≤ 4 := hI.2.2.1
  refine MC.of (by decide +kernel) (Nat.le_of_ble_eq_true rfl) (by dsimp only [linit, Nat.reduceSub, List.reduceReplicate] <;> rfl) ?_
  refine EV.iconst (pc := 0) (v := 0) dX4_lawCount_0 (by decide) ?_
  refine EV.istore_n (pc := 1) 1 dX4_lawCount_1 rfl (by decide) (by dsimp only [lst1, lk] <;> rfl) ?_
  refine EV.iconst (pc := 2) (v := 0) dX4_lawCount_2 (by decide) ?_
  refine EV.istore_n (pc := 3) 2 dX4_lawCount_3 rfl (by decide) (by dsimp only [lst1, lk] <;> rfl) ?_
  exact l_lawCount hw hcn (s_cn s) 0 (by omega)

def f_count (s : St) (w : Int32) : Int32 := if w = 0 then nI (cnt (fun p => !(s_lost s p)) 6) else if w = 1 then nI (s_cn s) else if w = 2 then nI (s_lc s) else if w = 3 then nI (cnt (s_bad s) 400) else if w = 4 then nI (cnt (s_li s) (s_cn s)) else if w = 5 then nI (s_md s) else -102

set_option maxHeartbeats 4000000 in
set_option maxRecDepth 100000 in
theorem p_count {G : eG} {ad : Nat → Nat} {h : Nat → va_E} {s : St} {z : Zc} {hm : Nat → va_E} (hw : CW G ad s z hm h) (hI : Inv s) (w : Int32)  : MC G M_X4_count cX4_count ad 54 [.ref (ad 0), .int w] h (PC G ad hm (.int (f_count s w)) s) := by
  by_cases hx : 0 ≤ w.toInt ∧ w.toInt ≤ 5
  · obtain ⟨w1, rfl, ew, lw⟩ := i_nat hx.1
    have h5 : w1 ≤ 5 := by omega
    refine MC.of (by decide +kernel) (Nat.le_of_ble_eq_true rfl) (by dsimp only [linit, Nat.reduceSub, List.reduceReplicate] <;> rfl) ?_
    refine EV.iload_n (pc := 0) dX4_count_0 rfl ?_
    match w1, h5 with
    | 0, _ =>
      refine EV.tin (pc := 1) (tgt := 40) (off := 39) dX4_count_1 (by decide +kernel) (by decide +kernel) (by decide +kernel) (by decide) ?_
      refine EV.aload_n (pc := 40) dX4_count_40 rfl ?_
      refine EV.callVR1 (pc := 41) (M' := M_X4_plateCount) dX4_count_41 lkX4_226 okV_X4_plateCount (m_plateCount hw hI) (by decide) rfl rfl (Nat.le_of_ble_eq_true rfl) (by decide) hw.h0 ?_
      exact EV.iret (pc := 44) dX4_count_44 trivial (PC.mk rfl rfl hw)
    | 1, _ =>
      refine EV.tin (pc := 1) (tgt := 45) (off := 44) dX4_count_1 (by decide +kernel) (by decide +kernel) (by decide +kernel) (by decide) ?_
      refine EV.aload_n (pc := 45) dX4_count_45 rfl ?_
      refine EV.getf (pc := 46) dX4_count_46 fgX4_110 (by decide) hw.h0 rfl ?_
      exact EV.iret (pc := 49) dX4_count_49 trivial (PC.mk rfl rfl hw)
    | 2, _ =>
      refine EV.tin (pc := 1) (tgt := 50) (off := 49) dX4_count_1 (by decide +kernel) (by decide +kernel) (by decide +kernel) (by decide) ?_
      refine EV.aload_n (pc := 50) dX4_count_50 rfl ?_
      refine EV.getf (pc := 51) dX4_count_51 fgX4_172 (by decide) hw.h0 rfl ?_
      exact EV.iret (pc := 54) dX4_count_54 trivial (PC.mk rfl rfl hw)
    | 3, _ =>
      refine EV.tin (pc := 1) (tgt := 55) (off := 54) dX4_count_1 (by decide +kernel) (by decide +kernel) (by decide +kernel) (by decide) ?_
      refine EV.aload_n (pc := 55) dX4_count_55 rfl ?_
      refine EV.callVR1 (pc := 56) (M' := M_X4_badCount) dX4_count_56 lkX4_229 okV_X4_badCount (m_badCount hw hI) (by decide) rfl rfl (Nat.le_of_ble_eq_true rfl) (by decide) hw.h0 ?_
      exact EV.iret (pc := 59) dX4_count_59 trivial (PC.mk rfl rfl hw)
    | 4, _ =>
      refine EV.tin (pc := 1) (tgt := 60) (off := 59) dX4_count_1 (by decide +kernel) (by decide +kernel) (by decide +kernel) (by decide) ?_
      refine EV.aload_n (pc := 60) dX4_count_60 rfl ?_
      refine EV.callVR1 (pc := 61) (M' := M_X4_lawCount) dX4_count_61 lkX4_202 okV_X4_lawCount (m_lawCount hw hI) (by decide) rfl rfl (Nat.le_of_ble_eq_true rfl) (by decide) hw.h0 ?_
      exact EV.iret (pc := 64) dX4_count_64 trivial (PC.mk rfl rfl hw)
    | 5, _ =>
      refine EV.tin (pc := 1) (tgt := 65) (off := 64) dX4_count_1 (by decide +kernel) (by decide +kernel) (by decide +kernel) (by decide) ?_
      refine EV.aload_n (pc := 65) dX4_count_65 rfl ?_
      refine EV.getf (pc := 66) dX4_count_66 fgX4_175 (by decide) hw.h0 rfl ?_
      exact EV.iret (pc := 69) dX4_count_69 trivial (PC.mk rfl rfl hw)
  · refine MC.of (by decide +kernel) (Nat.le_of_ble_eq_true rfl) (by dsimp only [linit, Nat.reduceSub, List.reduceReplicate] <;> rfl) ?_
    refine EV.iload_n (pc := 0) dX4_count_0 rfl ?_
    refine EV.tout (pc := 1) (tgt := 70) dX4_count_1 (by omega) (by decide) ?_
    refine EV.bipush (pc := 70) (v := -102) dX4_count_70 (by decide) ?_
    refine EV.iret (pc := 72) dX4_count_72 trivial ?_
    refine PC.mk ?_ rfl hw
    unfold f_count
    have q : ∀ k : Int32, 0 ≤ k.toInt → k.toInt ≤ 5 → ¬ w = k := fun k h1 h2 h3 => hx (by rw [h3]; exact ⟨h1, h2⟩)
    rw [if_neg (q 0 (by decide +kernel) (by decide +kernel)), if_neg (q 1 (by decide +kernel) (by decide +kernel)), if_neg (q 2 (by decide +kernel) (by decide +kernel)), if_neg (q 3 (by decide +kernel) (by decide +kernel)), if_neg (q 4 (by decide +kernel) (by decide +kernel)), if_neg (q 5 (by decide +kernel) (by decide +kernel))]
