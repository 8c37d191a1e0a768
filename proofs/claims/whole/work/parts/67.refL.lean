set_option maxHeartbeats 4000000 in
set_option maxRecDepth 100000 in
theorem l_nm_v {G : eG} {ad : Nat → Nat} {s : St} {hm : Nat → va_E} (P : Nat → Int) (m : Nat) (e : Nat) (hm9 : m ≤ 9) (hlc : s_lc s ≤ 12) (hln : ∀ i, i < s_lc s → 1 ≤ (s_ln s i).toInt ∧ (s_ln s i).toInt ≤ 1000000) (he : e ≤ 10000) (hP : ∀ i, i < m → 0 ≤ P i ∧ P i ≤ 2000) (hlt : ∀ i j, i < j → j < m → P i < P j) (k : Nat) (t : Int64) (i j u : Nat) (hi : i < m) (hj : j < m) (hij : i < j) (hu : u < s_lc s) (B : BL) (hB : okB B m) (post : eP) (kx : ∀ (h : Nat → va_E) (z : Zm) (v8 : Option Value), MW G ad s z hm h → okZ P m z (vU s P m (e : Int) (P i) (P j) u (s_lc s - (u + 1)) B) → EV G M_X5_match cX5_match none ad 54 post 170 [some (.ref (ad 34)), some (.int (nI k)), some (.long t), none, some (.int (nI e)), some (.int (nI i)), some (.int (nI j)), some (.int (nI u)), v8] [] h) : ∀ (n k0 : Nat) (h : Nat → va_E) (z : Zm), k0 + n = s_lc s - (u + 1) → MW G ad s z hm h → okZ P m z (vU s P m (e : Int) (P i) (P j) u k0 B) → EV G M_X5_match cX5_match none ad 54 post 121 [some (.ref (ad 34)), some (.int (nI k)), some (.long t), none, some (.int (nI e)), some (.int (nI i)), some (.int (nI j)), some (.int (nI u)), some (.int (nI (u + 1 + k0)))] [] h := by
  intro n
  induction n with
  | zero =>
    intro k0 h z hk hw hz
    have ek : k0 = s_lc s - (u + 1) := by omega
    subst ek
    refine EV.iload (pc := 121) dX5_match_121 rfl ?_
    refine EV.aload_n (pc := 123) dX5_match_123 rfl ?_
    refine EV.getf (pc := 124) dX5_match_124 fgX5_173 (by decide) hw.h34 rfl ?_
    refine EV.icmp_ge (pc := 127) (tgt := 170) dX5_match_127 (by decide) (fun _ => ?_) (fun q => absurd ((nI_leI (a := s_lc s) (b := u + 1 + (s_lc s - (u + 1))) (by omega) (by omega)).mpr (by omega)) q)
    exact kx h z _ hw hz
  | succ n ih =>
    intro k0 h z hk hw hz
    refine EV.iload (pc := 121) dX5_match_121 rfl ?_
    refine EV.aload_n (pc := 123) dX5_match_123 rfl ?_
    refine EV.getf (pc := 124) dX5_match_124 fgX5_173 (by decide) hw.h34 rfl ?_
    refine EV.icmp_ge (pc := 127) (tgt := 170) dX5_match_127 (by decide) (fun q => absurd q (fun z => absurd ((nI_leI (a := s_lc s) (b := u + 1 + k0) (by omega) (by omega)).mp z) (by omega))) (fun _ => ?_)
    refine EV.aload_n (pc := 130) dX5_match_130 rfl ?_
    refine EV.aload_n (pc := 131) dX5_match_131 rfl ?_
    refine EV.getf (pc := 132) dX5_match_132 fgX5_66 (by decide) hw.h34 rfl ?_
    refine EV.iload (pc := 135) dX5_match_135 rfl ?_
    refine EV.iald (pc := 137) dX5_match_137 (by decide) hw.h53 (vp_in_nI (show i < 20 by omega) (by omega)) ?_
    refine EV.topi (y := iI (P i)) (by rw [nI_clamp (by omega)]; exact hz.2.1 i hi) ?_
    refine EV.aload_n (pc := 138) dX5_match_138 rfl ?_
    refine EV.getf (pc := 139) dX5_match_139 fgX5_66 (by decide) hw.h34 rfl ?_
    refine EV.iload (pc := 142) dX5_match_142 rfl ?_
    refine EV.iald (pc := 144) dX5_match_144 (by decide) hw.h53 (vp_in_nI (show j < 20 by omega) (by omega)) ?_
    refine EV.topi (y := iI (P j)) (by rw [nI_clamp (by omega)]; exact hz.2.1 j hj) ?_
    refine EV.aload_n (pc := 145) dX5_match_145 rfl ?_
    refine EV.getf (pc := 146) dX5_match_146 fgX5_57 (by decide) hw.h34 rfl ?_
    refine EV.iload (pc := 149) dX5_match_149 rfl ?_
    refine EV.iald (pc := 151) dX5_match_151 (by decide) hw.h50 (vp_in_nI (show u < 12 by omega) (by omega)) ?_
    refine EV.topi (y := iI (s_ln s u).toInt) (by rw [nI_clamp (by omega), iI_of]) ?_
    refine EV.aload_n (pc := 152) dX5_match_152 rfl ?_
    refine EV.getf (pc := 153) dX5_match_153 fgX5_57 (by decide) hw.h34 rfl ?_
    refine EV.iload (pc := 156) dX5_match_156 rfl ?_
    refine EV.iald (pc := 158) dX5_match_158 (by decide) hw.h50 (vp_in_nI (show u + 1 + k0 < 12 by omega) (by omega)) ?_
    refine EV.topi (y := iI (s_ln s (u + 1 + k0)).toInt) (by rw [nI_clamp (by omega), iI_of]) ?_
    refine EV.iload (pc := 159) dX5_match_159 rfl ?_
    refine EV.topi (y := iI (e : Int)) (nI_iI e) ?_
    refine EV.callVP0 (pc := 161) (M' := M_X5_tryLaw) dX5_match_161 lkX5_201 okV_X5_tryLaw (n_try hw P m (e : Int) hm9 hlc hln (by omega) hP (P i) (P j) (s_ln s u).toInt (s_ln s (u + 1 + k0)).toInt (hP i hi) (hP j hj) (hlt i j hij hj) (hln u hu) (hln (u + 1 + k0) (by omega)) (vU s P m (e : Int) (P i) (P j) u k0 B) (okB_v hB) hz) (by decide) rfl rfl (Nat.le_of_ble_eq_true rfl) (by decide) hw.h34 (fun h hw => ?_)
    obtain ⟨z, hw, hz⟩ := hw
    refine EV.iinc (pc := 164) dX5_match_164 (by decide) rfl (by first | exact nI_inc _ | rfl) (by dsimp only [lst1, lk] <;> rfl) ?_
    refine EV.goto (pc := 167) (tgt := 121) dX5_match_167 (by decide) ?_
    exact ih (k0 + 1) h z (by omega) hw hz

set_option maxHeartbeats 4000000 in
set_option maxRecDepth 100000 in
theorem l_nm_u {G : eG} {ad : Nat → Nat} {s : St} {hm : Nat → va_E} (P : Nat → Int) (m : Nat) (e : Nat) (hm9 : m ≤ 9) (hlc : s_lc s ≤ 12) (hln : ∀ i, i < s_lc s → 1 ≤ (s_ln s i).toInt ∧ (s_ln s i).toInt ≤ 1000000) (he : e ≤ 10000) (hP : ∀ i, i < m → 0 ≤ P i ∧ P i ≤ 2000) (hlt : ∀ i j, i < j → j < m → P i < P j) (k : Nat) (t : Int64) (i j : Nat) (hi : i < m) (hj : j < m) (hij : i < j) (B : BL) (hB : okB B m) (post : eP) (kx : ∀ (h : Nat → va_E) (z : Zm) (v7 v8 : Option Value), MW G ad s z hm h → okZ P m z (uU s P m (e : Int) (P i) (P j) (s_lc s) B) → EV G M_X5_match cX5_match none ad 54 post 176 [some (.ref (ad 34)), some (.int (nI k)), some (.long t), none, some (.int (nI e)), some (.int (nI i)), some (.int (nI j)), v7, v8] [] h) : ∀ (n u : Nat) (h : Nat → va_E) (z : Zm) (v8 : Option Value), u + n = s_lc s → MW G ad s z hm h → okZ P m z (uU s P m (e : Int) (P i) (P j) u B) → EV G M_X5_match cX5_match none ad 54 post 106 [some (.ref (ad 34)), some (.int (nI k)), some (.long t), none, some (.int (nI e)), some (.int (nI i)), some (.int (nI j)), some (.int (nI u)), v8] [] h := by
  intro n
  induction n with
  | zero =>
    intro u h z v8 hk hw hz
    have ek : u = s_lc s := by omega
    subst ek
    refine EV.iload (pc := 106) dX5_match_106 rfl ?_
    refine EV.aload_n (pc := 108) dX5_match_108 rfl ?_
    refine EV.getf (pc := 109) dX5_match_109 fgX5_173 (by decide) hw.h34 rfl ?_
    refine EV.icmp_ge (pc := 112) (tgt := 176) dX5_match_112 (by decide) (fun _ => ?_) (fun q => absurd ((nI_leI (a := s_lc s) (b := s_lc s) (by omega) (by omega)).mpr (Nat.le_refl _)) q)
    exact kx h z _ _ hw hz
  | succ n ih =>
    intro u h z v8 hk hw hz
    refine EV.iload (pc := 106) dX5_match_106 rfl ?_
    refine EV.aload_n (pc := 108) dX5_match_108 rfl ?_
    refine EV.getf (pc := 109) dX5_match_109 fgX5_173 (by decide) hw.h34 rfl ?_
    refine EV.icmp_ge (pc := 112) (tgt := 176) dX5_match_112 (by decide) (fun q => absurd q (fun z => absurd ((nI_leI (a := s_lc s) (b := u) (by omega) (by omega)).mp z) (by omega))) (fun _ => ?_)
    refine EV.iload (pc := 115) dX5_match_115 rfl ?_
    refine EV.iconst (pc := 117) (v := 1) dX5_match_117 (by decide) ?_
    refine EV.iadd (pc := 118) dX5_match_118 ?_
    refine EV.topi (y := nI (u + 1 + 0)) (nI_p1 u) ?_
    refine EV.istore (pc := 119) dX5_match_119 (by decide) (by dsimp only [lst1, lk] <;> rfl) ?_
    refine l_nm_v P m e hm9 hlc hln he hP hlt k t i j u hi hj hij (by omega) (uU s P m (e : Int) (P i) (P j) u B) (okB_u hB) _ (fun h z v8 hw hz => ?_) (s_lc s - (u + 1)) 0 h z (by omega) hw hz
    refine EV.iinc (pc := 170) dX5_match_170 (by decide) rfl (by first | exact nI_inc _ | rfl) (by dsimp only [lst1, lk] <;> rfl) ?_
    refine EV.goto (pc := 173) (tgt := 106) dX5_match_173 (by decide) ?_
    exact ih (u + 1) h z _ (by omega) hw hz

set_option maxHeartbeats 4000000 in
set_option maxRecDepth 100000 in
theorem l_nm_j {G : eG} {ad : Nat → Nat} {s : St} {hm : Nat → va_E} (P : Nat → Int) (m : Nat) (e : Nat) (hm9 : m ≤ 9) (hlc : s_lc s ≤ 12) (hln : ∀ i, i < s_lc s → 1 ≤ (s_ln s i).toInt ∧ (s_ln s i).toInt ≤ 1000000) (he : e ≤ 10000) (hP : ∀ i, i < m → 0 ≤ P i ∧ P i ≤ 2000) (hlt : ∀ i j, i < j → j < m → P i < P j) (k : Nat) (t : Int64) (i : Nat) (hi : i < m) (B : BL) (hB : okB B m) (post : eP) (kx : ∀ (h : Nat → va_E) (z : Zm) (v6 v7 v8 : Option Value), MW G ad s z hm h → okZ P m z (jJ s P m (e : Int) i (m - (i + 1)) B) → EV G M_X5_match cX5_match none ad 54 post 182 [some (.ref (ad 34)), some (.int (nI k)), some (.long t), none, some (.int (nI e)), some (.int (nI i)), v6, v7, v8] [] h) : ∀ (n k0 : Nat) (h : Nat → va_E) (z : Zm) (v7 v8 : Option Value), k0 + n = m - (i + 1) → MW G ad s z hm h → okZ P m z (jJ s P m (e : Int) i k0 B) → EV G M_X5_match cX5_match none ad 54 post 94 [some (.ref (ad 34)), some (.int (nI k)), some (.long t), none, some (.int (nI e)), some (.int (nI i)), some (.int (nI (i + 1 + k0))), v7, v8] [] h := by
  intro n
  induction n with
  | zero =>
    intro k0 h z v7 v8 hk hw hz
    have ek : k0 = m - (i + 1) := by omega
    subst ek
    refine EV.iload (pc := 94) dX5_match_94 rfl ?_
    refine EV.aload_n (pc := 96) dX5_match_96 rfl ?_
    refine EV.getf (pc := 97) dX5_match_97 fgX5_162 (by decide) hw.h34 rfl ?_
    refine EV.topi (y := nI m) hz.1 ?_
    refine EV.icmp_ge (pc := 100) (tgt := 182) dX5_match_100 (by decide) (fun _ => ?_) (fun q => absurd ((nI_leI (a := m) (b := i + 1 + (m - (i + 1))) (by omega) (by omega)).mpr (by omega)) q)
    exact kx h z _ _ _ hw hz
  | succ n ih =>
    intro k0 h z v7 v8 hk hw hz
    refine EV.iload (pc := 94) dX5_match_94 rfl ?_
    refine EV.aload_n (pc := 96) dX5_match_96 rfl ?_
    refine EV.getf (pc := 97) dX5_match_97 fgX5_162 (by decide) hw.h34 rfl ?_
    refine EV.topi (y := nI m) hz.1 ?_
    refine EV.icmp_ge (pc := 100) (tgt := 182) dX5_match_100 (by decide) (fun q => absurd q (fun z => absurd ((nI_leI (a := m) (b := i + 1 + k0) (by omega) (by omega)).mp z) (by omega))) (fun _ => ?_)
    refine EV.iconst (pc := 103) (v := 0) dX5_match_103 (by decide) ?_
    refine EV.istore (pc := 104) dX5_match_104 (by decide) (by dsimp only [lst1, lk] <;> rfl) ?_
    refine l_nm_u P m e hm9 hlc hln he hP hlt k t i (i + 1 + k0) hi (by omega) (by omega) (jJ s P m (e : Int) i k0 B) (okB_j hB) _ (fun h z v7 v8 hw hz => ?_) (s_lc s) 0 h z _ (by omega) hw hz
    refine EV.iinc (pc := 176) dX5_match_176 (by decide) rfl (by first | exact nI_inc _ | rfl) (by dsimp only [lst1, lk] <;> rfl) ?_
    refine EV.goto (pc := 179) (tgt := 94) dX5_match_179 (by decide) ?_
    exact ih (k0 + 1) h z _ _ (by omega) hw hz

set_option maxHeartbeats 4000000 in
set_option maxRecDepth 100000 in
theorem l_nm_i {G : eG} {ad : Nat → Nat} {s : St} {hm : Nat → va_E} (P : Nat → Int) (m : Nat) (e : Nat) (hm9 : m ≤ 9) (hlc : s_lc s ≤ 12) (hln : ∀ i, i < s_lc s → 1 ≤ (s_ln s i).toInt ∧ (s_ln s i).toInt ≤ 1000000) (he : e ≤ 10000) (hP : ∀ i, i < m → 0 ≤ P i ∧ P i ≤ 2000) (hlt : ∀ i j, i < j → j < m → P i < P j) (k : Nat) (t : Int64) (post : eP) (kx : ∀ (h : Nat → va_E) (z : Zm) (v5 v6 v7 v8 : Option Value), MW G ad s z hm h → okZ P m z (iJ s P m (e : Int) m) → EV G M_X5_match cX5_match none ad 54 post 188 [some (.ref (ad 34)), some (.int (nI k)), some (.long t), none, some (.int (nI e)), v5, v6, v7, v8] [] h) : ∀ (n i : Nat) (h : Nat → va_E) (z : Zm) (v6 v7 v8 : Option Value), i + n = m → MW G ad s z hm h → okZ P m z (iJ s P m (e : Int) i) → EV G M_X5_match cX5_match none ad 54 post 79 [some (.ref (ad 34)), some (.int (nI k)), some (.long t), none, some (.int (nI e)), some (.int (nI i)), v6, v7, v8] [] h := by
  intro n
  induction n with
  | zero =>
    intro i h z v6 v7 v8 hk hw hz
    have ek : i = m := by omega
    subst ek
    refine EV.iload (pc := 79) dX5_match_79 rfl ?_
    refine EV.aload_n (pc := 81) dX5_match_81 rfl ?_
    refine EV.getf (pc := 82) dX5_match_82 fgX5_162 (by decide) hw.h34 rfl ?_
    refine EV.topi (y := nI i) hz.1 ?_
    refine EV.icmp_ge (pc := 85) (tgt := 188) dX5_match_85 (by decide) (fun _ => ?_) (fun q => absurd ((nI_leI (a := i) (b := i) (by omega) (by omega)).mpr (Nat.le_refl _)) q)
    exact kx h z _ _ _ _ hw hz
  | succ n ih =>
    intro i h z v6 v7 v8 hk hw hz
    refine EV.iload (pc := 79) dX5_match_79 rfl ?_
    refine EV.aload_n (pc := 81) dX5_match_81 rfl ?_
    refine EV.getf (pc := 82) dX5_match_82 fgX5_162 (by decide) hw.h34 rfl ?_
    refine EV.topi (y := nI m) hz.1 ?_
    refine EV.icmp_ge (pc := 85) (tgt := 188) dX5_match_85 (by decide) (fun q => absurd q (fun z => absurd ((nI_leI (a := m) (b := i) (by omega) (by omega)).mp z) (by omega))) (fun _ => ?_)
    refine EV.iload (pc := 88) dX5_match_88 rfl ?_
    refine EV.iconst (pc := 90) (v := 1) dX5_match_90 (by decide) ?_
    refine EV.iadd (pc := 91) dX5_match_91 ?_
    refine EV.topi (y := nI (i + 1 + 0)) (nI_p1 i) ?_
    refine EV.istore (pc := 92) dX5_match_92 (by decide) (by dsimp only [lst1, lk] <;> rfl) ?_
    refine l_nm_j P m e hm9 hlc hln he hP hlt k t i (by omega) (iJ s P m (e : Int) i) okB_i _ (fun h z v6 v7 v8 hw hz => ?_) (m - (i + 1)) 0 h z _ _ (by omega) hw hz
    refine EV.iinc (pc := 182) dX5_match_182 (by decide) rfl (by first | exact nI_inc _ | rfl) (by dsimp only [lst1, lk] <;> rfl) ?_
    refine EV.goto (pc := 185) (tgt := 79) dX5_match_185 (by decide) ?_
    exact ih (i + 1) h z _ _ _ (by omega) hw hz

set_option maxHeartbeats 4000000 in
set_option maxRecDepth 100000 in
theorem l_nm_e {G : eG} {ad : Nat → Nat} {s : St} {hm : Nat → va_E} {z : Zm} (P : Nat → Int) (m : Nat) (k : Nat) (hk4 : k < 4) (t : Int64) (v4 v5 v6 v7 v8 : Option Value) (B : BL) (hB : okB B m) (hm9 : m ≤ 9) {h : Nat → va_E} (hw : MW G ad s z hm h) (hz : okZ P m z (B)) : EV G M_X5_match cX5_match none ad 54 (PM G ad hm (.int (nI B.1)) (mS s k B)) 188 [some (.ref (ad 34)), some (.int (nI k)), some (.long t), none, v4, v5, v6, v7, v8] [] h := by
  have qB := okB_le hB
  have eB := nI_t (show B.1 < 2147483648 by omega)
  refine EV.aload_n (pc := 188) dX5_match_188 rfl ?_
  refine EV.getf (pc := 189) dX5_match_189 fgX5_186 (by decide) hw.h34 rfl ?_
  refine EV.topi (y := nI B.1) hz.2.2.1 ?_
  refine EV.if_le (pc := 192) (tgt := 234) dX5_match_192 (by decide) (fun c192 => ?_) (fun c192 => ?_)
  · try simp only [Int32.lt_iff_toInt_lt, Int32.le_iff_toInt_le, ← Int32.toInt_inj, Int64.lt_iff_toInt_lt, Int64.le_iff_toInt_le, ← Int64.toInt_inj, Int32.toInt_toInt64, i_l0, i_l1, i_l2, i_l5, i_l19, i_m1, j_l0, j_l1, j_l5, i_l3, i_l4, i_l6, i_l7, i_l8, i_l9, i_l12, i_l16, i_l20, i_l60, i_l64, i_l100, i_l200, i_l304, i_l2000, i_l10000, i_l100000, i_l1000000, i_n1000000, i_n19, i_n101, eB] at c192
    refine EV.aload_n (pc := 234) dX5_match_234 rfl ?_
    refine EV.getf (pc := 235) dX5_match_235 fgX5_186 (by decide) hw.h34 rfl ?_
    refine EV.topi (y := nI B.1) hz.2.2.1 ?_
    refine EV.iret (pc := 238) dX5_match_238 trivial ?_
    first | exact ⟨rfl, _, hw⟩ | (have em : mS s k B = s := (by unfold mS; rw [if_pos (by omega)]); rw [em]; exact ⟨rfl, _, hw⟩)
  · try simp only [Int32.lt_iff_toInt_lt, Int32.le_iff_toInt_le, ← Int32.toInt_inj, Int64.lt_iff_toInt_lt, Int64.le_iff_toInt_le, ← Int64.toInt_inj, Int32.toInt_toInt64, i_l0, i_l1, i_l2, i_l5, i_l19, i_m1, j_l0, j_l1, j_l5, i_l3, i_l4, i_l6, i_l7, i_l8, i_l9, i_l12, i_l16, i_l20, i_l60, i_l64, i_l100, i_l200, i_l304, i_l2000, i_l10000, i_l100000, i_l1000000, i_n1000000, i_n19, i_n101, eB] at c192
    have hB0 : ¬ B.1 = 0 := by omega
    have hab := hz.2.2.2 hB0
    refine EV.aload_n (pc := 195) dX5_match_195 rfl ?_
    refine EV.getf (pc := 196) dX5_match_196 fgX5_45 (by decide) hw.h34 rfl ?_
    refine EV.iload_n (pc := 199) dX5_match_199 rfl ?_
    refine EV.iconst (pc := 200) (v := 1) dX5_match_200 (by decide) ?_
    refine EV.zast (pc := 201) dX5_match_201 (by decide) hw.h46 (vp_in_nI (show k < 4 by omega) (by omega)) ?_
    refine EV.abs (Pr := MW G ad (S_lF (S_lB (S_lA (S_li s (va_up (s_li s) k true)) (va_up (s_lA s) k (m_jA z k))) (va_up (s_lB s) k (m_jB z k))) (va_up (s_lF s) k (m_jF z k))) z hm) (by have q := hw.set_liT k; rw [nI_clamp (by omega)]; exact q) (fun h hw => ?_)
    generalize ht1 : (S_lF (S_lB (S_lA (S_li s (va_up (s_li s) k true)) (va_up (s_lA s) k (m_jA z k))) (va_up (s_lB s) k (m_jB z k))) (va_up (s_lF s) k (m_jF z k))) = t1 at hw
    refine EV.aload_n (pc := 202) dX5_match_202 rfl ?_
    refine EV.getf (pc := 203) dX5_match_203 fgX5_48 (by decide) hw.h34 rfl ?_
    refine EV.iload_n (pc := 206) dX5_match_206 rfl ?_
    refine EV.aload_n (pc := 207) dX5_match_207 rfl ?_
    refine EV.getf (pc := 208) dX5_match_208 fgX5_193 (by decide) hw.h34 rfl ?_
    refine EV.topl (y := jI B.2.1) hab.1 ?_
    refine EV.l2i (pc := 211) dX5_match_211 ?_
    refine EV.topi (y := iI B.2.1) (jI_i _) ?_
    refine EV.iast (pc := 212) dX5_match_212 (by decide) hw.h47 (vp_in_nI (show k < 4 by omega) (by omega)) ?_
    refine EV.abs (Pr := MW G ad (S_lA t1 (upd (s_lA t1) k (iI B.2.1))) (M_jA z (upd (m_jA z) k (iI B.2.1))) hm) (by have q := hw.set_lA k (iI B.2.1); rw [nI_clamp (by omega)]; exact q) (fun h hw => ?_)
    generalize ht2 : (S_lA t1 (upd (s_lA t1) k (iI B.2.1))) = t2 at hw
    refine EV.aload_n (pc := 213) dX5_match_213 rfl ?_
    refine EV.getf (pc := 214) dX5_match_214 fgX5_51 (by decide) hw.h34 rfl ?_
    refine EV.iload_n (pc := 217) dX5_match_217 rfl ?_
    refine EV.aload_n (pc := 218) dX5_match_218 rfl ?_
    refine EV.getf (pc := 219) dX5_match_219 fgX5_189 (by decide) hw.h34 rfl ?_
    refine EV.topl (y := jI B.2.2) hab.2 ?_
    refine EV.l2i (pc := 222) dX5_match_222 ?_
    refine EV.topi (y := iI B.2.2) (jI_i _) ?_
    refine EV.iast (pc := 223) dX5_match_223 (by decide) hw.h48 (vp_in_nI (show k < 4 by omega) (by omega)) ?_
    refine EV.abs (Pr := MW G ad (S_lB t2 (upd (s_lB t2) k (iI B.2.2))) (M_jB (M_jA z (upd (m_jA z) k (iI B.2.1))) (upd (m_jB z) k (iI B.2.2))) hm) (by have q := hw.set_lB k (iI B.2.2); rw [nI_clamp (by omega)]; exact q) (fun h hw => ?_)
    generalize ht3 : (S_lB t2 (upd (s_lB t2) k (iI B.2.2))) = t3 at hw
    refine EV.aload_n (pc := 224) dX5_match_224 rfl ?_
    refine EV.getf (pc := 225) dX5_match_225 fgX5_54 (by decide) hw.h34 rfl ?_
    refine EV.iload_n (pc := 228) dX5_match_228 rfl ?_
    refine EV.aload_n (pc := 229) dX5_match_229 rfl ?_
    refine EV.getf (pc := 230) dX5_match_230 fgX5_186 (by decide) hw.h34 rfl ?_
    refine EV.topi (y := nI B.1) hz.2.2.1 ?_
    refine EV.iast (pc := 233) dX5_match_233 (by decide) hw.h49 (vp_in_nI (show k < 4 by omega) (by omega)) ?_
    refine EV.abs (Pr := MW G ad (S_lF t3 (upd (s_lF t3) k (nI B.1))) (M_jF (M_jB (M_jA z (upd (m_jA z) k (iI B.2.1))) (upd (m_jB z) k (iI B.2.2))) (upd (m_jF z) k (nI B.1))) hm) (by have q := hw.set_lF k (nI B.1); rw [nI_clamp (by omega)]; exact q) (fun h hw => ?_)
    rw [← ht3, ← ht2, ← ht1, law_st] at hw
    have em : mS s k B = S_lF (S_lB (S_lA (S_li s (va_up (s_li s) k true)) (va_up (s_lA s) k (iI B.2.1))) (va_up (s_lB s) k (iI B.2.2))) (va_up (s_lF s) k (nI B.1)) := by unfold mS; rw [if_neg hB0]
    rw [← em] at hw
    refine EV.aload_n (pc := 234) dX5_match_234 rfl ?_
    refine EV.getf (pc := 235) dX5_match_235 fgX5_186 (by decide) hw.h34 rfl ?_
    refine EV.topi (y := nI B.1) hz.2.2.1 ?_
    refine EV.iret (pc := 238) dX5_match_238 trivial ?_
    first | exact ⟨rfl, _, hw⟩ | (have em : mS s k B = s := (by unfold mS; rw [if_pos (by omega)]); rw [em]; exact ⟨rfl, _, hw⟩)

set_option maxHeartbeats 4000000 in
set_option maxRecDepth 100000 in
theorem q_match {G : eG} {ad : Nat → Nat} {h : Nat → va_E} {s : St} {z : Zm} {hm : Nat → va_E} (hw : MW G ad s z hm h) (hI : Inv s) (c : Int32) (t : Int64) (e : Int32)  : MC G M_X5_match cX5_match ad 54 [.ref (ad 34), .int c, .long t, .int e] h (PM G ad hm (.int (f_match s c t e).1) (f_match s c t e).2) := by
  have hcn : s_cn s ≤ 4 := hI.2.2.1
  by_cases hp : 0 ≤ c.toInt ∧ c.toInt < s_cn s
  · obtain ⟨k, rfl, ek, lk⟩ := i_nat hp.1
    have hk : k < s_cn s := by omega
    have hk4 : k < 4 := by omega
    have hco : s_co s k ≤ 20 := (hI.2.2.2.1 k hk4).2.2.2
    have hlc : s_lc s ≤ 12 := hI.2.2.2.2.2.2.2.1
    have hln := hI.2.2.2.2.2.2.2.2.1
    have hmd : s_md s ≤ 200 := hI.2.2.2.2.2.2.2.2.2.2.1
    have hl := pks_len (t := t.toInt) hco
    have e1 := nI_t (show (pks s k t.toInt).length < 2147483648 by omega)
    have emd := nI_t (show s_md s < 2147483648 by omega)
    have e0 : f_match s (nI k) t e = g_match s k t.toInt e.toInt := by unfold f_match; rw [if_pos hp, nI_tn (by omega)]
    rw [e0]
    refine MC.of (by decide +kernel) (Nat.le_of_ble_eq_true rfl) (by dsimp only [linit, Nat.reduceSub, List.reduceReplicate] <;> rfl) ?_
    refine EV.aload_n (pc := 0) dX5_match_0 rfl ?_
    refine EV.iload_n (pc := 1) dX5_match_1 rfl ?_
    refine EV.callVR1 (pc := 2) (M' := M_X5_isComb) dX5_match_2 lkX5_117 okV_X5_isComb (n_isComb _ hw hcn) (by decide) rfl rfl (Nat.le_of_ble_eq_true rfl) (by decide) hw.h34 ?_
    refine EV.if_ne (pc := 5) (tgt := 11) dX5_match_5 (by decide) (fun _ => ?_) (fun q => absurd q (fun q => b2i_F q hp))
    refine EV.lload_n (pc := 11) dX5_match_11 rfl ?_
    refine EV.lconst (pc := 12) (v := 1) dX5_match_12 (by decide) ?_
    refine EV.lcmp_lt (pc := 13) (tgt := 30) dX5_match_13 dX5_match_14 (by decide) (fun c13 => ?_) (fun c13 => ?_)
    · try simp only [Int32.lt_iff_toInt_lt, Int32.le_iff_toInt_le, ← Int32.toInt_inj, Int64.lt_iff_toInt_lt, Int64.le_iff_toInt_le, ← Int64.toInt_inj, Int32.toInt_toInt64, i_l0, i_l1, i_l2, i_l5, i_l19, i_m1, j_l0, j_l1, j_l5, i_l3, i_l4, i_l6, i_l7, i_l8, i_l9, i_l12, i_l16, i_l20, i_l60, i_l64, i_l100, i_l200, i_l304, i_l2000, i_l10000, i_l100000, i_l1000000, i_n1000000, i_n19, i_n101, j_l2, j_l3, j_l19, j_l304, j_l2000, j_l10000, j_l100000, j_l1000000, j_l60, j_l100, j_n1000000, j_n19, e1, emd] at c13
      refine EV.bipush (pc := 30) (v := -102) dX5_match_30 (by decide) ?_
      refine EV.iret (pc := 32) dX5_match_32 trivial ?_
      exact PM.i (by unfold g_match; rw [if_neg (by omega)]) hw
    · try simp only [Int32.lt_iff_toInt_lt, Int32.le_iff_toInt_le, ← Int32.toInt_inj, Int64.lt_iff_toInt_lt, Int64.le_iff_toInt_le, ← Int64.toInt_inj, Int32.toInt_toInt64, i_l0, i_l1, i_l2, i_l5, i_l19, i_m1, j_l0, j_l1, j_l5, i_l3, i_l4, i_l6, i_l7, i_l8, i_l9, i_l12, i_l16, i_l20, i_l60, i_l64, i_l100, i_l200, i_l304, i_l2000, i_l10000, i_l100000, i_l1000000, i_n1000000, i_n19, i_n101, j_l2, j_l3, j_l19, j_l304, j_l2000, j_l10000, j_l100000, j_l1000000, j_l60, j_l100, j_n1000000, j_n19, e1, emd] at c13
      refine EV.iload (pc := 17) dX5_match_17 rfl ?_
      refine EV.i2l (pc := 19) dX5_match_19 ?_
      refine EV.lconst (pc := 20) (v := 0) dX5_match_20 (by decide) ?_
      refine EV.ldc2 (pc := 21) dX5_match_21 kcX5_196 ?_
      refine EV.callSR1 (pc := 24) (M' := M_X5_in) dX5_match_24 lkX5_75 okS_X5_in (n_in _ _ _) (by decide) rfl rfl (Nat.le_of_ble_eq_true rfl) ?_
      refine EV.if_ne (pc := 27) (tgt := 33) dX5_match_27 (by decide) (fun c27 => ?_) (fun c27 => ?_)
      · replace c27 := b2i_T c27
        try simp only [Int32.lt_iff_toInt_lt, Int32.le_iff_toInt_le, ← Int32.toInt_inj, Int64.lt_iff_toInt_lt, Int64.le_iff_toInt_le, ← Int64.toInt_inj, Int32.toInt_toInt64, i_l0, i_l1, i_l2, i_l5, i_l19, i_m1, j_l0, j_l1, j_l5, i_l3, i_l4, i_l6, i_l7, i_l8, i_l9, i_l12, i_l16, i_l20, i_l60, i_l64, i_l100, i_l200, i_l304, i_l2000, i_l10000, i_l100000, i_l1000000, i_n1000000, i_n19, i_n101, j_l2, j_l3, j_l19, j_l304, j_l2000, j_l10000, j_l100000, j_l1000000, j_l60, j_l100, j_n1000000, j_n19, e1, emd] at c27
        refine EV.aload_n (pc := 33) dX5_match_33 rfl ?_
        refine EV.iload_n (pc := 34) dX5_match_34 rfl ?_
        refine EV.lload_n (pc := 35) dX5_match_35 rfl ?_
        refine EV.callVP0 (pc := 36) (M' := M_X5_find) dX5_match_36 lkX5_167 okV_X5_find (n_find hw k t hI hk4) (by decide) rfl rfl (Nat.le_of_ble_eq_true rfl) (by decide) hw.h34 (fun h hw => ?_)
        generalize hZ : zP z (pks s k t.toInt) = z1 at hw
        have hz1 : m_pm z1 = nI (pks s k t.toInt).length := by rw [← hZ]; rfl
        have hz2 : ∀ i, i < (pks s k t.toInt).length → m_pp z1 i = iI (pkG (pks s k t.toInt) i) := fun i hi => by rw [← hZ]; show plA _ _ i = _; unfold plA; rw [if_pos hi]; rfl
        refine EV.aload_n (pc := 39) dX5_match_39 rfl ?_
        refine EV.getf (pc := 40) dX5_match_40 fgX5_162 (by decide) hw.h34 rfl ?_
        refine EV.topi (y := nI (pks s k t.toInt).length) hz1 ?_
        refine EV.bipush (pc := 43) (v := 9) dX5_match_43 (by decide) ?_
        refine EV.icmp_gt (pc := 45) (tgt := 58) dX5_match_45 (by decide) (fun c45 => ?_) (fun c45 => ?_)
        · try simp only [Int32.lt_iff_toInt_lt, Int32.le_iff_toInt_le, ← Int32.toInt_inj, Int64.lt_iff_toInt_lt, Int64.le_iff_toInt_le, ← Int64.toInt_inj, Int32.toInt_toInt64, i_l0, i_l1, i_l2, i_l5, i_l19, i_m1, j_l0, j_l1, j_l5, i_l3, i_l4, i_l6, i_l7, i_l8, i_l9, i_l12, i_l16, i_l20, i_l60, i_l64, i_l100, i_l200, i_l304, i_l2000, i_l10000, i_l100000, i_l1000000, i_n1000000, i_n19, i_n101, j_l2, j_l3, j_l19, j_l304, j_l2000, j_l10000, j_l100000, j_l1000000, j_l60, j_l100, j_n1000000, j_n19, e1, emd] at c45
          refine EV.bipush (pc := 58) (v := -104) dX5_match_58 (by decide) ?_
          refine EV.iret (pc := 60) dX5_match_60 trivial ?_
          exact PM.i (by unfold g_match; rw [if_pos (by omega), if_pos (by omega)]) hw
        · try simp only [Int32.lt_iff_toInt_lt, Int32.le_iff_toInt_le, ← Int32.toInt_inj, Int64.lt_iff_toInt_lt, Int64.le_iff_toInt_le, ← Int64.toInt_inj, Int32.toInt_toInt64, i_l0, i_l1, i_l2, i_l5, i_l19, i_m1, j_l0, j_l1, j_l5, i_l3, i_l4, i_l6, i_l7, i_l8, i_l9, i_l12, i_l16, i_l20, i_l60, i_l64, i_l100, i_l200, i_l304, i_l2000, i_l10000, i_l100000, i_l1000000, i_n1000000, i_n19, i_n101, j_l2, j_l3, j_l19, j_l304, j_l2000, j_l10000, j_l100000, j_l1000000, j_l60, j_l100, j_n1000000, j_n19, e1, emd] at c45
          refine EV.aload_n (pc := 48) dX5_match_48 rfl ?_
          refine EV.getf (pc := 49) dX5_match_49 fgX5_198 (by decide) hw.h34 rfl ?_
          refine EV.sipush (pc := 52) (v := 200) dX5_match_52 (by decide) ?_
          refine EV.icmp_ne (pc := 55) (tgt := 61) dX5_match_55 (by decide) (fun c55 => ?_) (fun c55 => ?_)
          · try simp only [Int32.lt_iff_toInt_lt, Int32.le_iff_toInt_le, ← Int32.toInt_inj, Int64.lt_iff_toInt_lt, Int64.le_iff_toInt_le, ← Int64.toInt_inj, Int32.toInt_toInt64, i_l0, i_l1, i_l2, i_l5, i_l19, i_m1, j_l0, j_l1, j_l5, i_l3, i_l4, i_l6, i_l7, i_l8, i_l9, i_l12, i_l16, i_l20, i_l60, i_l64, i_l100, i_l200, i_l304, i_l2000, i_l10000, i_l100000, i_l1000000, i_n1000000, i_n19, i_n101, j_l2, j_l3, j_l19, j_l304, j_l2000, j_l10000, j_l100000, j_l1000000, j_l60, j_l100, j_n1000000, j_n19, e1, emd] at c55
            obtain ⟨e2, rfl, ee2, le2⟩ := i_nat (show 0 ≤ e.toInt by omega)
            refine EV.aload_n (pc := 61) dX5_match_61 rfl ?_
            refine EV.dup (pc := 62) dX5_match_62 rfl ?_
            refine EV.getf (pc := 63) dX5_match_63 fgX5_198 (by decide) hw.h34 rfl ?_
            refine EV.iconst (pc := 66) (v := 1) dX5_match_66 (by decide) ?_
            refine EV.iadd (pc := 67) dX5_match_67 ?_
            refine EV.topi (y := nI (s_md s + 1)) (nI_p1 _) ?_
            refine EV.putf (pc := 68) dX5_match_68 fpX5_198 (by decide) hw.h34 rfl rfl (Nat.le_of_ble_eq_true rfl) ?_
            refine EV.abs (Pr := MW G ad (S_md s (s_md s + 1)) z1 hm) (hw.set_md (s_md s + 1)) (fun h hw => ?_)
            refine EV.aload_n (pc := 71) dX5_match_71 rfl ?_
            refine EV.iconst (pc := 72) (v := 0) dX5_match_72 (by decide) ?_
            refine EV.putf (pc := 73) dX5_match_73 fpX5_186 (by decide) hw.h34 rfl rfl (Nat.le_of_ble_eq_true rfl) ?_
            refine EV.abs (Pr := MW G ad (S_md s (s_md s + 1)) (M_mo z1 0) hm) (hw.set_mo 0) (fun h hw => ?_)
            refine EV.iconst (pc := 76) (v := 0) dX5_match_76 (by decide) ?_
            refine EV.istore (pc := 77) dX5_match_77 (by decide) (by dsimp only [lst1, lk] <;> rfl) ?_
            have e6 : g_match s k t.toInt (nI e2).toInt = (nI (mB s k t.toInt (e2 : Int)).1, mS (S_md s (s_md s + 1)) k (mB s k t.toInt (e2 : Int))) := by unfold g_match; rw [if_pos (by omega), if_neg (by omega), ee2]
            rw [e6]
            refine l_nm_i (s := (S_md s (s_md s + 1))) (pkG (pks s k t.toInt)) (pks s k t.toInt).length e2 (by omega) hlc hln (by omega) (fun i hi => pkG_in hco hi) (fun i j hij hj => pkG_lt hij hj) k t _ (fun h z v5 v6 v7 v8 hw hz => ?_) (pks s k t.toInt).length 0 h (M_mo z1 0) _ _ _ (by omega) hw ⟨hz1, hz2, rfl, fun q => absurd rfl q⟩
            rw [iJ_md] at hz
            exact l_nm_e (s := (S_md s (s_md s + 1))) _ _ k hk4 t _ v5 v6 v7 v8 (mB s k t.toInt (e2 : Int)) okB_i (by omega) hw hz
          · try simp only [Int32.lt_iff_toInt_lt, Int32.le_iff_toInt_le, ← Int32.toInt_inj, Int64.lt_iff_toInt_lt, Int64.le_iff_toInt_le, ← Int64.toInt_inj, Int32.toInt_toInt64, i_l0, i_l1, i_l2, i_l5, i_l19, i_m1, j_l0, j_l1, j_l5, i_l3, i_l4, i_l6, i_l7, i_l8, i_l9, i_l12, i_l16, i_l20, i_l60, i_l64, i_l100, i_l200, i_l304, i_l2000, i_l10000, i_l100000, i_l1000000, i_n1000000, i_n19, i_n101, j_l2, j_l3, j_l19, j_l304, j_l2000, j_l10000, j_l100000, j_l1000000, j_l60, j_l100, j_n1000000, j_n19, e1, emd] at c55
            refine EV.bipush (pc := 58) (v := -104) dX5_match_58 (by decide) ?_
            refine EV.iret (pc := 60) dX5_match_60 trivial ?_
            exact PM.i (by unfold g_match; rw [if_pos (by omega), if_pos (by omega)]) hw
      · replace c27 := b2i_F c27
        try simp only [Int32.lt_iff_toInt_lt, Int32.le_iff_toInt_le, ← Int32.toInt_inj, Int64.lt_iff_toInt_lt, Int64.le_iff_toInt_le, ← Int64.toInt_inj, Int32.toInt_toInt64, i_l0, i_l1, i_l2, i_l5, i_l19, i_m1, j_l0, j_l1, j_l5, i_l3, i_l4, i_l6, i_l7, i_l8, i_l9, i_l12, i_l16, i_l20, i_l60, i_l64, i_l100, i_l200, i_l304, i_l2000, i_l10000, i_l100000, i_l1000000, i_n1000000, i_n19, i_n101, j_l2, j_l3, j_l19, j_l304, j_l2000, j_l10000, j_l100000, j_l1000000, j_l60, j_l100, j_n1000000, j_n19, e1, emd] at c27
        refine EV.bipush (pc := 30) (v := -102) dX5_match_30 (by decide) ?_
        refine EV.iret (pc := 32) dX5_match_32 trivial ?_
        exact PM.i (by unfold g_match; rw [if_neg (by omega)]) hw
  · have e0 : f_match s c t e = (-101, s) := by unfold f_match; rw [if_neg hp]
    rw [e0]
    refine MC.of (by decide +kernel) (Nat.le_of_ble_eq_true rfl) (by dsimp only [linit, Nat.reduceSub, List.reduceReplicate] <;> rfl) ?_
    refine EV.aload_n (pc := 0) dX5_match_0 rfl ?_
    refine EV.iload_n (pc := 1) dX5_match_1 rfl ?_
    refine EV.callVR1 (pc := 2) (M' := M_X5_isComb) dX5_match_2 lkX5_117 okV_X5_isComb (n_isComb _ hw hcn) (by decide) rfl rfl (Nat.le_of_ble_eq_true rfl) (by decide) hw.h34 ?_
    refine EV.if_ne (pc := 5) (tgt := 11) dX5_match_5 (by decide) (fun q => absurd (b2i_0 hp).symm q) (fun _ => ?_)
    refine EV.bipush (pc := 8) (v := -101) dX5_match_8 (by decide) ?_
    exact EV.iret (pc := 10) dX5_match_10 trivial ⟨rfl, z, hw⟩
