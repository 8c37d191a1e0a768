set_option maxHeartbeats 4000000 in
set_option maxRecDepth 100000 in
theorem n_mix {G : eG} {ad : Nat → Nat} {h : Nat → va_E} (v : Int64) {s : St} {z : Zm} {hm : Nat → va_E} (hw : MW G ad s z hm h) : MC G M_X5_mix cX5_mix ad 54 [.ref (ad 34), .long v] h (fun v' h' => v' = none ∧ MW G ad s (M_hh z (31 * m_hh z + v)) hm h') := by
  refine MC.of (by decide +kernel) (Nat.le_of_ble_eq_true rfl) (by dsimp only [linit, Nat.reduceSub, List.reduceReplicate] <;> rfl) ?_
  refine EV.aload_n (pc := 0) dX5_mix_0 rfl ?_
  refine EV.ldc2 (pc := 1) dX5_mix_1 kcX5_230 ?_
  refine EV.aload_n (pc := 4) dX5_mix_4 rfl ?_
  refine EV.getf (pc := 5) dX5_mix_5 fgX5_232 (by decide) hw.h34 rfl ?_
  refine EV.lmul (pc := 8) dX5_mix_8 ?_
  refine EV.lload_n (pc := 9) dX5_mix_9 rfl ?_
  refine EV.ladd (pc := 10) dX5_mix_10 ?_
  refine EV.putf (pc := 11) dX5_mix_11 fpX5_232 (by decide) hw.h34 rfl rfl (Nat.le_of_ble_eq_true rfl) ?_
  refine EV.abs (Pr := MW G ad s (M_hh z (31 * m_hh z + v)) hm) (hw.set_hh _) (fun h hw => ?_)
  exact EV.vret (pc := 14) dX5_mix_14 trivial ⟨rfl, hw⟩

set_option maxHeartbeats 4000000 in
set_option maxRecDepth 100000 in
theorem l_ndg5 {G : eG} {ad : Nat → Nat} {s : St} {z : Zm} {hm : Nat → va_E}  (hI : Inv s) : ∀ (n i : Nat) (h : Nat → va_E) (v2 v3 : Option Value), i + n = s_lc s → MW G ad s (M_hh z (dgN (fun i => (s_ln s i).toInt64) i (dgCs s (s_cn s) (dgB (s_bad s) 400 (dgPs s 6 113))))) hm h → EV G M_X5_digest cX5_digest none ad 54 (fun v h' => v = some (.long (f_digest s)) ∧ ∃ z : Zm, MW G ad s z hm h') 231 [some (.ref (ad 34)), some (.int (nI i)), v2, v3] [] h := by
  intro n
  induction n with
  | zero =>
    intro i h v2 v3 hi hw
    have e : i = s_lc s := by omega
    subst e
    have hlc : s_lc s ≤ 12 := hI.2.2.2.2.2.2.2.1
    have hcn : s_cn s ≤ 4 := hI.2.2.1
    have hmd : s_md s ≤ 200 := hI.2.2.2.2.2.2.2.2.2.2.1
    refine EV.iload_n (pc := 231) dX5_digest_231 rfl ?_
    refine EV.aload_n (pc := 232) dX5_digest_232 rfl ?_
    refine EV.getf (pc := 233) dX5_digest_233 fgX5_173 (by decide) hw.h34 rfl ?_
    refine EV.icmp_ge (pc := 236) (tgt := 256) dX5_digest_236 (by decide) (fun _ => ?_) (fun q => absurd ((nI_leI (a := s_lc s) (b := s_lc s) (by omega) (by omega)).mpr (Nat.le_refl _)) q)
    refine EV.aload_n (pc := 256) dX5_digest_256 rfl ?_
    refine EV.aload_n (pc := 257) dX5_digest_257 rfl ?_
    refine EV.getf (pc := 258) dX5_digest_258 fgX5_110 (by decide) hw.h34 rfl ?_
    refine EV.i2l (pc := 261) dX5_digest_261 ?_
    refine EV.callVP0 (pc := 262) (M' := M_X5_mix) dX5_digest_262 lkX5_237 okV_X5_mix (n_mix _ hw) (by decide) rfl rfl (Nat.le_of_ble_eq_true rfl) (by decide) hw.h34 (fun h hw => ?_)
    refine EV.aload_n (pc := 265) dX5_digest_265 rfl ?_
    refine EV.aload_n (pc := 266) dX5_digest_266 rfl ?_
    refine EV.getf (pc := 267) dX5_digest_267 fgX5_198 (by decide) hw.h34 rfl ?_
    refine EV.i2l (pc := 270) dX5_digest_270 ?_
    refine EV.callVP0 (pc := 271) (M' := M_X5_mix) dX5_digest_271 lkX5_237 okV_X5_mix (n_mix _ hw) (by decide) rfl rfl (Nat.le_of_ble_eq_true rfl) (by decide) hw.h34 (fun h hw => ?_)
    refine EV.aload_n (pc := 274) dX5_digest_274 rfl ?_
    refine EV.getf (pc := 275) dX5_digest_275 fgX5_232 (by decide) hw.h34 rfl ?_
    refine EV.lret (pc := 278) dX5_digest_278 trivial ?_
    exact ⟨congrArg (fun z => some (Value.long z)) (by unfold f_digest; rw [← nI_L (show s_md s < 2147483648 by omega)]), _, hw⟩
  | succ n ih =>
    intro i h v2 v3 hi hw
    have hi2 : i < s_lc s := by omega
    have hlc : s_lc s ≤ 12 := hI.2.2.2.2.2.2.2.1
    have hcn : s_cn s ≤ 4 := hI.2.2.1
    have hmd : s_md s ≤ 200 := hI.2.2.2.2.2.2.2.2.2.2.1
    refine EV.iload_n (pc := 231) dX5_digest_231 rfl ?_
    refine EV.aload_n (pc := 232) dX5_digest_232 rfl ?_
    refine EV.getf (pc := 233) dX5_digest_233 fgX5_173 (by decide) hw.h34 rfl ?_
    refine EV.icmp_ge (pc := 236) (tgt := 256) dX5_digest_236 (by decide) (fun q => absurd q (fun z => absurd ((nI_leI (a := s_lc s) (b := i) (by omega) (by omega)).mp z) (by omega))) (fun _ => ?_)
    refine EV.aload_n (pc := 239) dX5_digest_239 rfl ?_
    refine EV.aload_n (pc := 240) dX5_digest_240 rfl ?_
    refine EV.getf (pc := 241) dX5_digest_241 fgX5_57 (by decide) hw.h34 rfl ?_
    refine EV.iload_n (pc := 244) dX5_digest_244 rfl ?_
    refine EV.iald (pc := 245) dX5_digest_245 (by decide) hw.h50 (vp_in_nI (show i < 12 by omega) (by omega)) ?_
    refine EV.topi (y := s_ln s i) (by rw [nI_clamp (by omega)]) ?_
    refine EV.i2l (pc := 246) dX5_digest_246 ?_
    refine EV.callVP0 (pc := 247) (M' := M_X5_mix) dX5_digest_247 lkX5_237 okV_X5_mix (n_mix _ hw) (by decide) rfl rfl (Nat.le_of_ble_eq_true rfl) (by decide) hw.h34 (fun h hw => ?_)
    refine EV.iinc (pc := 250) dX5_digest_250 (by decide) rfl (by first | exact nI_inc _ | rfl) (by dsimp only [lst1, lk] <;> rfl) ?_
    refine EV.goto (pc := 253) (tgt := 231) dX5_digest_253 (by decide) ?_
    exact ih (i + 1) h _ _ (by omega) hw

set_option maxHeartbeats 4000000 in
set_option maxRecDepth 100000 in
theorem l_ndgn {G : eG} {ad : Nat → Nat} {s : St} {z : Zm} {hm : Nat → va_E} (k : Nat) (hk4 : k < 4) (hI : Inv s) (post : eP) (kx : ∀ (h : Nat → va_E) (v2 v3 : Option Value), MW G ad s (M_hh z (dgCs s (k + 1) (dgB (s_bad s) 400 (dgPs s 6 113)))) hm h → EV G M_X5_digest cX5_digest none ad 54 post 223 [some (.ref (ad 34)), some (.int (nI k)), v2, v3] [] h) : ∀ (n i : Nat) (h : Nat → va_E) (v3 : Option Value), i + n = s_co s k → MW G ad s (M_hh z (dgN (fun x => lN (s_nm s k x)) i (dgN (fun w => (g_fact s k w).toInt64) 8 (dgCs s k (dgB (s_bad s) 400 (dgPs s 6 113)))))) hm h → EV G M_X5_digest cX5_digest none ad 54 (post) 192 [some (.ref (ad 34)), some (.int (nI k)), some (.int (nI i)), v3] [] h := by
  intro n
  induction n with
  | zero =>
    intro i h v3 hi hw
    have e : i = s_co s k := by omega
    subst e
    have hco := (hI.2.2.2.1 k hk4).2.2.2
    refine EV.iload_n (pc := 192) dX5_digest_192 rfl ?_
    refine EV.aload_n (pc := 193) dX5_digest_193 rfl ?_
    refine EV.getf (pc := 194) dX5_digest_194 fgX5_38 (by decide) hw.h34 rfl ?_
    refine EV.iload_n (pc := 197) dX5_digest_197 rfl ?_
    refine EV.iald (pc := 198) dX5_digest_198 (by decide) hw.h44 (vp_in_nI (show k < 4 by omega) (by omega)) ?_
    refine EV.topi (y := nI (s_co s k)) (by rw [nI_clamp (by omega)]) ?_
    refine EV.icmp_ge (pc := 199) (tgt := 223) dX5_digest_199 (by decide) (fun _ => ?_) (fun q => absurd ((nI_leI (a := s_co s k) (b := s_co s k) (by omega) (by omega)).mpr (Nat.le_refl _)) q)
    exact kx h _ _ hw
  | succ n ih =>
    intro i h v3 hi hw
    have hi2 : i < s_co s k := by omega
    have hco := (hI.2.2.2.1 k hk4).2.2.2
    refine EV.iload_n (pc := 192) dX5_digest_192 rfl ?_
    refine EV.aload_n (pc := 193) dX5_digest_193 rfl ?_
    refine EV.getf (pc := 194) dX5_digest_194 fgX5_38 (by decide) hw.h34 rfl ?_
    refine EV.iload_n (pc := 197) dX5_digest_197 rfl ?_
    refine EV.iald (pc := 198) dX5_digest_198 (by decide) hw.h44 (vp_in_nI (show k < 4 by omega) (by omega)) ?_
    refine EV.topi (y := nI (s_co s k)) (by rw [nI_clamp (by omega)]) ?_
    refine EV.icmp_ge (pc := 199) (tgt := 223) dX5_digest_199 (by decide) (fun q => absurd q (fun z => absurd ((nI_leI (a := s_co s k) (b := i) (by omega) (by omega)).mp z) (by omega))) (fun _ => ?_)
    refine EV.aload_n (pc := 202) dX5_digest_202 rfl ?_
    refine EV.aload_n (pc := 203) dX5_digest_203 rfl ?_
    refine EV.getf (pc := 204) dX5_digest_204 fgX5_41 (by decide) hw.h34 rfl ?_
    refine EV.bipush (pc := 207) (v := 20) dX5_digest_207 (by decide) ?_
    refine EV.iload_n (pc := 209) dX5_digest_209 rfl ?_
    refine EV.imul (pc := 210) dX5_digest_210 ?_
    refine EV.iload_n (pc := 211) dX5_digest_211 rfl ?_
    refine EV.iadd (pc := 212) dX5_digest_212 ?_
    refine EV.topi (y := nI (20 * k + i)) (ix2 k i) ?_
    refine EV.lald (pc := 213) dX5_digest_213 (by decide) hw.h45 (vp_in_nI (show 20 * k + i < 80 by omega) (by omega)) ?_
    refine EV.topl (y := lN (s_nm s k i)) (by rw [nI_clamp (by omega)]; exact congrArg lN (n_rd2 (f := s_nm s) (by omega))) ?_
    refine EV.callVP0 (pc := 214) (M' := M_X5_mix) dX5_digest_214 lkX5_237 okV_X5_mix (n_mix _ hw) (by decide) rfl rfl (Nat.le_of_ble_eq_true rfl) (by decide) hw.h34 (fun h hw => ?_)
    refine EV.iinc (pc := 217) dX5_digest_217 (by decide) rfl (by first | exact nI_inc _ | rfl) (by dsimp only [lst1, lk] <;> rfl) ?_
    refine EV.goto (pc := 220) (tgt := 192) dX5_digest_220 (by decide) ?_
    exact ih (i + 1) h _ (by omega) hw

set_option maxHeartbeats 4000000 in
set_option maxRecDepth 100000 in
theorem l_ndgf {G : eG} {ad : Nat → Nat} {s : St} {z : Zm} {hm : Nat → va_E} (k : Nat) (hk4 : k < 4) (hk : k < s_cn s) (hI : Inv s) (post : eP) (kx : ∀ (h : Nat → va_E) (v2 v3 : Option Value), MW G ad s (M_hh z (dgCs s (k + 1) (dgB (s_bad s) 400 (dgPs s 6 113)))) hm h → EV G M_X5_digest cX5_digest none ad 54 post 223 [some (.ref (ad 34)), some (.int (nI k)), v2, v3] [] h) : ∀ (n i : Nat) (h : Nat → va_E) (v3 : Option Value), i + n = 8 → MW G ad s (M_hh z (dgN (fun w => (g_fact s k w).toInt64) i (dgCs s k (dgB (s_bad s) 400 (dgPs s 6 113))))) hm h → EV G M_X5_digest cX5_digest none ad 54 (post) 167 [some (.ref (ad 34)), some (.int (nI k)), some (.int (nI i)), v3] [] h := by
  intro n
  induction n with
  | zero =>
    intro i h v3 hi hw
    have e : i = 8 := by omega
    subst e
    refine EV.iload_n (pc := 167) dX5_digest_167 rfl ?_
    refine EV.bipush (pc := 168) (v := 8) dX5_digest_168 (by decide) ?_
    refine EV.icmp_ge (pc := 170) (tgt := 190) dX5_digest_170 (by decide) (fun _ => ?_) (fun q => absurd ((nI_leI (a := 8) (b := 8) (by omega) (by omega)).mpr (Nat.le_refl _)) q)
    refine EV.iconst (pc := 190) (v := 0) dX5_digest_190 (by decide) ?_
    refine EV.istore_n (pc := 191) 2 dX5_digest_191 rfl (by decide) (by dsimp only [lst1, lk] <;> rfl) ?_
    exact l_ndgn k hk4 hI post kx (s_co s k) 0 h _ (by omega) hw
  | succ n ih =>
    intro i h v3 hi hw
    have hi2 : i < 8 := by omega
    refine EV.iload_n (pc := 167) dX5_digest_167 rfl ?_
    refine EV.bipush (pc := 168) (v := 8) dX5_digest_168 (by decide) ?_
    refine EV.icmp_ge (pc := 170) (tgt := 190) dX5_digest_170 (by decide) (fun q => absurd q (fun z => absurd ((nI_leI (a := 8) (b := i) (by omega) (by omega)).mp z) (by omega))) (fun _ => ?_)
    refine EV.aload_n (pc := 173) dX5_digest_173 rfl ?_
    refine EV.aload_n (pc := 174) dX5_digest_174 rfl ?_
    refine EV.iload_n (pc := 175) dX5_digest_175 rfl ?_
    refine EV.iload_n (pc := 176) dX5_digest_176 rfl ?_
    refine EV.callVR1 (pc := 177) (M' := M_X5_told) dX5_digest_177 lkX5_241 okV_X5_told (n_told hw hI (nI k) (nI i)) (by decide) rfl rfl (Nat.le_of_ble_eq_true rfl) (by decide) hw.h34 ?_
    refine EV.topi (y := g_fact s k i) (by unfold f_told; rw [nI_t (by omega), nI_t (by omega), if_pos (by omega), if_pos (by omega)]; rfl) ?_
    refine EV.i2l (pc := 180) dX5_digest_180 ?_
    refine EV.callVP0 (pc := 181) (M' := M_X5_mix) dX5_digest_181 lkX5_237 okV_X5_mix (n_mix _ hw) (by decide) rfl rfl (Nat.le_of_ble_eq_true rfl) (by decide) hw.h34 (fun h hw => ?_)
    refine EV.iinc (pc := 184) dX5_digest_184 (by decide) rfl (by first | exact nI_inc _ | rfl) (by dsimp only [lst1, lk] <;> rfl) ?_
    refine EV.goto (pc := 187) (tgt := 167) dX5_digest_187 (by decide) ?_
    exact ih (i + 1) h _ (by omega) hw

set_option maxHeartbeats 4000000 in
set_option maxRecDepth 100000 in
theorem l_ndg4 {G : eG} {ad : Nat → Nat} {s : St} {z : Zm} {hm : Nat → va_E}  (hI : Inv s) : ∀ (n i : Nat) (h : Nat → va_E) (v2 v3 : Option Value), i + n = s_cn s → MW G ad s (M_hh z (dgCs s i (dgB (s_bad s) 400 (dgPs s 6 113)))) hm h → EV G M_X5_digest cX5_digest none ad 54 (fun v h' => v = some (.long (f_digest s)) ∧ ∃ z : Zm, MW G ad s z hm h') 157 [some (.ref (ad 34)), some (.int (nI i)), v2, v3] [] h := by
  intro n
  induction n with
  | zero =>
    intro i h v2 v3 hi hw
    have e : i = s_cn s := by omega
    subst e
    have hlc : s_lc s ≤ 12 := hI.2.2.2.2.2.2.2.1
    have hcn : s_cn s ≤ 4 := hI.2.2.1
    have hmd : s_md s ≤ 200 := hI.2.2.2.2.2.2.2.2.2.2.1
    refine EV.iload_n (pc := 157) dX5_digest_157 rfl ?_
    refine EV.aload_n (pc := 158) dX5_digest_158 rfl ?_
    refine EV.getf (pc := 159) dX5_digest_159 fgX5_79 (by decide) hw.h34 rfl ?_
    refine EV.icmp_ge (pc := 162) (tgt := 229) dX5_digest_162 (by decide) (fun _ => ?_) (fun q => absurd ((nI_leI (a := s_cn s) (b := s_cn s) (by omega) (by omega)).mpr (Nat.le_refl _)) q)
    refine EV.iconst (pc := 229) (v := 0) dX5_digest_229 (by decide) ?_
    refine EV.istore_n (pc := 230) 1 dX5_digest_230 rfl (by decide) (by dsimp only [lst1, lk] <;> rfl) ?_
    exact l_ndg5 hI (s_lc s) 0 h _ _ (by omega) hw
  | succ n ih =>
    intro i h v2 v3 hi hw
    have hi2 : i < s_cn s := by omega
    have hlc : s_lc s ≤ 12 := hI.2.2.2.2.2.2.2.1
    have hcn : s_cn s ≤ 4 := hI.2.2.1
    have hmd : s_md s ≤ 200 := hI.2.2.2.2.2.2.2.2.2.2.1
    refine EV.iload_n (pc := 157) dX5_digest_157 rfl ?_
    refine EV.aload_n (pc := 158) dX5_digest_158 rfl ?_
    refine EV.getf (pc := 159) dX5_digest_159 fgX5_79 (by decide) hw.h34 rfl ?_
    refine EV.icmp_ge (pc := 162) (tgt := 229) dX5_digest_162 (by decide) (fun q => absurd q (fun z => absurd ((nI_leI (a := s_cn s) (b := i) (by omega) (by omega)).mp z) (by omega))) (fun _ => ?_)
    refine EV.iconst (pc := 165) (v := 0) dX5_digest_165 (by decide) ?_
    refine EV.istore_n (pc := 166) 2 dX5_digest_166 rfl (by decide) (by dsimp only [lst1, lk] <;> rfl) ?_
    refine l_ndgf i (by omega) hi2 hI _ (fun h v2 v3 hw => ?_) 8 0 h _ rfl hw
    refine EV.iinc (pc := 223) dX5_digest_223 (by decide) rfl (by first | exact nI_inc _ | rfl) (by dsimp only [lst1, lk] <;> rfl) ?_
    refine EV.goto (pc := 226) (tgt := 157) dX5_digest_226 (by decide) ?_
    exact ih (i + 1) h _ _ (by omega) hw

set_option maxHeartbeats 4000000 in
set_option maxRecDepth 100000 in
theorem l_ndg3 {G : eG} {ad : Nat → Nat} {s : St} {z : Zm} {hm : Nat → va_E}  (hI : Inv s) : ∀ (n i : Nat) (h : Nat → va_E) (v2 v3 : Option Value), i + n = 400 → MW G ad s (M_hh z (dgB (s_bad s) i (dgPs s 6 113))) hm h → EV G M_X5_digest cX5_digest none ad 54 (fun v h' => v = some (.long (f_digest s)) ∧ ∃ z : Zm, MW G ad s z hm h') 127 [some (.ref (ad 34)), some (.int (nI i)), v2, v3] [] h := by
  intro n
  induction n with
  | zero =>
    intro i h v2 v3 hi hw
    have e : i = 400 := by omega
    subst e
    refine EV.iload_n (pc := 127) dX5_digest_127 rfl ?_
    refine EV.sipush (pc := 128) (v := 400) dX5_digest_128 (by decide) ?_
    refine EV.icmp_ge (pc := 131) (tgt := 155) dX5_digest_131 (by decide) (fun _ => ?_) (fun q => absurd ((nI_leI (a := 400) (b := 400) (by omega) (by omega)).mpr (Nat.le_refl _)) q)
    refine EV.iconst (pc := 155) (v := 0) dX5_digest_155 (by decide) ?_
    refine EV.istore_n (pc := 156) 1 dX5_digest_156 rfl (by decide) (by dsimp only [lst1, lk] <;> rfl) ?_
    exact l_ndg4 hI (s_cn s) 0 h _ _ (by omega) hw
  | succ n ih =>
    intro i h v2 v3 hi hw
    have hi2 : i < 400 := by omega
    refine EV.iload_n (pc := 127) dX5_digest_127 rfl ?_
    refine EV.sipush (pc := 128) (v := 400) dX5_digest_128 (by decide) ?_
    refine EV.icmp_ge (pc := 131) (tgt := 155) dX5_digest_131 (by decide) (fun q => absurd q (fun z => absurd ((nI_leI (a := 400) (b := i) (by omega) (by omega)).mp z) (by omega))) (fun _ => ?_)
    refine EV.aload_n (pc := 134) dX5_digest_134 rfl ?_
    refine EV.getf (pc := 135) dX5_digest_135 fgX5_26 (by decide) hw.h34 rfl ?_
    refine EV.iload_n (pc := 138) dX5_digest_138 rfl ?_
    refine EV.zald (pc := 139) dX5_digest_139 (by decide) hw.h40 (vp_in_nI (show i < 400 by omega) (by omega)) ?_
    refine EV.topi (y := b2i (s_bad s i)) (by rw [nI_clamp (by omega)]) ?_
    refine EV.if_eq (pc := 140) (tgt := 149) dX5_digest_140 (by decide) (fun c140 => ?_) (fun c140 => ?_)
    · replace c140 := b2i_eq c140
      refine EV.iinc (pc := 149) dX5_digest_149 (by decide) rfl (by first | exact nI_inc _ | rfl) (by dsimp only [lst1, lk] <;> rfl) ?_
      refine EV.goto (pc := 152) (tgt := 127) dX5_digest_152 (by decide) ?_
      refine ih (i + 1) h _ _ (by omega) ?_
      first | (have e5 : dgB (s_bad s) (i + 1) (dgPs s 6 113) = 31 * dgB (s_bad s) i (dgPs s 6 113) + lN i := (by simp only [dgB]; rw [if_pos c140]); rw [e5]; exact hw) | (have e5 : dgB (s_bad s) (i + 1) (dgPs s 6 113) = dgB (s_bad s) i (dgPs s 6 113) := (by simp only [dgB]; rw [if_neg (by rw [c140]; simp)]); rw [e5]; exact hw)
    · replace c140 := b2i_ne c140
      refine EV.aload_n (pc := 143) dX5_digest_143 rfl ?_
      refine EV.iload_n (pc := 144) dX5_digest_144 rfl ?_
      refine EV.i2l (pc := 145) dX5_digest_145 ?_
      refine EV.topl (y := lN i) (nI_L (by omega)) ?_
      refine EV.callVP0 (pc := 146) (M' := M_X5_mix) dX5_digest_146 lkX5_237 okV_X5_mix (n_mix _ hw) (by decide) rfl rfl (Nat.le_of_ble_eq_true rfl) (by decide) hw.h34 (fun h hw => ?_)
      refine EV.iinc (pc := 149) dX5_digest_149 (by decide) rfl (by first | exact nI_inc _ | rfl) (by dsimp only [lst1, lk] <;> rfl) ?_
      refine EV.goto (pc := 152) (tgt := 127) dX5_digest_152 (by decide) ?_
      refine ih (i + 1) h _ _ (by omega) ?_
      first | (have e5 : dgB (s_bad s) (i + 1) (dgPs s 6 113) = 31 * dgB (s_bad s) i (dgPs s 6 113) + lN i := (by simp only [dgB]; rw [if_pos c140]); rw [e5]; exact hw) | (have e5 : dgB (s_bad s) (i + 1) (dgPs s 6 113) = dgB (s_bad s) i (dgPs s 6 113) := (by simp only [dgB]; rw [if_neg (by rw [c140]; simp)]); rw [e5]; exact hw)

set_option maxHeartbeats 4000000 in
set_option maxRecDepth 100000 in
theorem l_ndgx {G : eG} {ad : Nat → Nat} {s : St} {z : Zm} {hm : Nat → va_E} (k y : Nat) (hk : k < 6) (a1 : Int64) (hI : Inv s) (hy : y < s_h s k) (post : eP) (kx : ∀ (h : Nat → va_E) (v2 v3 : Option Value), MW G ad s (M_hh z (dgN ((fun y x => (s_ct s k (y * 20 + x)).toInt64) y) (s_w s k) a1)) hm h → EV G M_X5_digest cX5_digest none ad 54 post 113 [some (.ref (ad 34)), some (.int (nI k)), some (.int (nI y)), v3] [] h) : ∀ (n i : Nat) (h : Nat → va_E) , i + n = s_w s k → MW G ad s (M_hh z (dgN ((fun y x => (s_ct s k (y * 20 + x)).toInt64) y) i a1)) hm h → EV G M_X5_digest cX5_digest none ad 54 (post) 81 [some (.ref (ad 34)), some (.int (nI k)), some (.int (nI y)), some (.int (nI i))] [] h := by
  intro n
  induction n with
  | zero =>
    intro i h  hi hw
    have e : i = s_w s k := by omega
    subst e
    have hd := hI.1 k hk
    refine EV.iload_n (pc := 81) dX5_digest_81 rfl ?_
    refine EV.aload_n (pc := 82) dX5_digest_82 rfl ?_
    refine EV.getf (pc := 83) dX5_digest_83 fgX5_17 (by decide) hw.h34 rfl ?_
    refine EV.iload_n (pc := 86) dX5_digest_86 rfl ?_
    refine EV.iald (pc := 87) dX5_digest_87 (by decide) hw.h37 (vp_in_nI (show k < 6 by omega) (by omega)) ?_
    refine EV.topi (y := nI (s_w s k)) (by rw [nI_clamp (by omega)]) ?_
    refine EV.icmp_ge (pc := 88) (tgt := 113) dX5_digest_88 (by decide) (fun _ => ?_) (fun q => absurd ((nI_leI (a := s_w s k) (b := s_w s k) (by omega) (by omega)).mpr (Nat.le_refl _)) q)
    exact kx h none _ hw
  | succ n ih =>
    intro i h  hi hw
    have hi2 : i < s_w s k := by omega
    have hd := hI.1 k hk
    refine EV.iload_n (pc := 81) dX5_digest_81 rfl ?_
    refine EV.aload_n (pc := 82) dX5_digest_82 rfl ?_
    refine EV.getf (pc := 83) dX5_digest_83 fgX5_17 (by decide) hw.h34 rfl ?_
    refine EV.iload_n (pc := 86) dX5_digest_86 rfl ?_
    refine EV.iald (pc := 87) dX5_digest_87 (by decide) hw.h37 (vp_in_nI (show k < 6 by omega) (by omega)) ?_
    refine EV.topi (y := nI (s_w s k)) (by rw [nI_clamp (by omega)]) ?_
    refine EV.icmp_ge (pc := 88) (tgt := 113) dX5_digest_88 (by decide) (fun q => absurd q (fun z => absurd ((nI_leI (a := s_w s k) (b := i) (by omega) (by omega)).mp z) (by omega))) (fun _ => ?_)
    refine EV.aload_n (pc := 91) dX5_digest_91 rfl ?_
    refine EV.aload_n (pc := 92) dX5_digest_92 rfl ?_
    refine EV.getf (pc := 93) dX5_digest_93 fgX5_23 (by decide) hw.h34 rfl ?_
    refine EV.iload_n (pc := 96) dX5_digest_96 rfl ?_
    refine EV.iload_n (pc := 97) dX5_digest_97 rfl ?_
    refine EV.iload_n (pc := 98) dX5_digest_98 rfl ?_
    refine EV.callSR1 (pc := 99) (M' := M_X5_place) dX5_digest_99 lkX5_96 okS_X5_place (n_place _ _ _) (by decide) rfl rfl (Nat.le_of_ble_eq_true rfl) ?_
    refine EV.topi (y := nI (400 * k + (y * 20 + i))) (pl4 k i y) ?_
    refine EV.iald (pc := 102) dX5_digest_102 (by decide) hw.h39 (vp_in_nI (show 400 * k + (y * 20 + i) < 2400 by omega) (by omega)) ?_
    refine EV.topi (y := s_ct s k (y * 20 + i)) (by rw [nI_clamp (by omega)]; exact n_rd (f := s_ct s) (by omega)) ?_
    refine EV.i2l (pc := 103) dX5_digest_103 ?_
    refine EV.callVP0 (pc := 104) (M' := M_X5_mix) dX5_digest_104 lkX5_237 okV_X5_mix (n_mix _ hw) (by decide) rfl rfl (Nat.le_of_ble_eq_true rfl) (by decide) hw.h34 (fun h hw => ?_)
    refine EV.iinc (pc := 107) dX5_digest_107 (by decide) rfl (by first | exact nI_inc _ | rfl) (by dsimp only [lst1, lk] <;> rfl) ?_
    refine EV.goto (pc := 110) (tgt := 81) dX5_digest_110 (by decide) ?_
    exact ih (i + 1) h (by omega) hw

set_option maxHeartbeats 4000000 in
set_option maxRecDepth 100000 in
theorem l_ndgy {G : eG} {ad : Nat → Nat} {s : St} {z : Zm} {hm : Nat → va_E} (k : Nat) (hk : k < 6) (a1 : Int64) (hI : Inv s) (post : eP) (kx : ∀ (h : Nat → va_E) (v2 v3 : Option Value), MW G ad s (M_hh z (dgY (fun y x => (s_ct s k (y * 20 + x)).toInt64) (s_w s k) (s_h s k) a1)) hm h → EV G M_X5_digest cX5_digest none ad 54 post 119 [some (.ref (ad 34)), some (.int (nI k)), v2, v3] [] h) : ∀ (n i : Nat) (h : Nat → va_E) (v3 : Option Value), i + n = s_h s k → MW G ad s (M_hh z (dgY (fun y x => (s_ct s k (y * 20 + x)).toInt64) (s_w s k) i a1)) hm h → EV G M_X5_digest cX5_digest none ad 54 (post) 69 [some (.ref (ad 34)), some (.int (nI k)), some (.int (nI i)), v3] [] h := by
  intro n
  induction n with
  | zero =>
    intro i h v3 hi hw
    have e : i = s_h s k := by omega
    subst e
    have hd := hI.1 k hk
    refine EV.iload_n (pc := 69) dX5_digest_69 rfl ?_
    refine EV.aload_n (pc := 70) dX5_digest_70 rfl ?_
    refine EV.getf (pc := 71) dX5_digest_71 fgX5_20 (by decide) hw.h34 rfl ?_
    refine EV.iload_n (pc := 74) dX5_digest_74 rfl ?_
    refine EV.iald (pc := 75) dX5_digest_75 (by decide) hw.h38 (vp_in_nI (show k < 6 by omega) (by omega)) ?_
    refine EV.topi (y := nI (s_h s k)) (by rw [nI_clamp (by omega)]) ?_
    refine EV.icmp_ge (pc := 76) (tgt := 119) dX5_digest_76 (by decide) (fun _ => ?_) (fun q => absurd ((nI_leI (a := s_h s k) (b := s_h s k) (by omega) (by omega)).mpr (Nat.le_refl _)) q)
    exact kx h _ _ hw
  | succ n ih =>
    intro i h v3 hi hw
    have hi2 : i < s_h s k := by omega
    have hd := hI.1 k hk
    refine EV.iload_n (pc := 69) dX5_digest_69 rfl ?_
    refine EV.aload_n (pc := 70) dX5_digest_70 rfl ?_
    refine EV.getf (pc := 71) dX5_digest_71 fgX5_20 (by decide) hw.h34 rfl ?_
    refine EV.iload_n (pc := 74) dX5_digest_74 rfl ?_
    refine EV.iald (pc := 75) dX5_digest_75 (by decide) hw.h38 (vp_in_nI (show k < 6 by omega) (by omega)) ?_
    refine EV.topi (y := nI (s_h s k)) (by rw [nI_clamp (by omega)]) ?_
    refine EV.icmp_ge (pc := 76) (tgt := 119) dX5_digest_76 (by decide) (fun q => absurd q (fun z => absurd ((nI_leI (a := s_h s k) (b := i) (by omega) (by omega)).mp z) (by omega))) (fun _ => ?_)
    refine EV.iconst (pc := 79) (v := 0) dX5_digest_79 (by decide) ?_
    refine EV.istore_n (pc := 80) 3 dX5_digest_80 rfl (by decide) (by dsimp only [lst1, lk] <;> rfl) ?_
    refine l_ndgx k i hk _ hI hi2 _ (fun h v2 v3 hw => ?_) (s_w s k) 0 h (by omega) hw
    refine EV.iinc (pc := 113) dX5_digest_113 (by decide) rfl (by first | exact nI_inc _ | rfl) (by dsimp only [lst1, lk] <;> rfl) ?_
    refine EV.goto (pc := 116) (tgt := 69) dX5_digest_116 (by decide) ?_
    exact ih (i + 1) h _ (by omega) hw

set_option maxHeartbeats 4000000 in
set_option maxRecDepth 100000 in
theorem l_ndg1 {G : eG} {ad : Nat → Nat} {s : St} {z : Zm} {hm : Nat → va_E}  (hI : Inv s) : ∀ (n i : Nat) (h : Nat → va_E) (v2 v3 : Option Value), i + n = 6 → MW G ad s (M_hh z (dgPs s i 113)) hm h → EV G M_X5_digest cX5_digest none ad 54 (fun v h' => v = some (.long (f_digest s)) ∧ ∃ z : Zm, MW G ad s z hm h') 9 [some (.ref (ad 34)), some (.int (nI i)), v2, v3] [] h := by
  intro n
  induction n with
  | zero =>
    intro i h v2 v3 hi hw
    have e : i = 6 := by omega
    subst e
    refine EV.iload_n (pc := 9) dX5_digest_9 rfl ?_
    refine EV.bipush (pc := 10) (v := 6) dX5_digest_10 (by decide) ?_
    refine EV.icmp_ge (pc := 12) (tgt := 125) dX5_digest_12 (by decide) (fun _ => ?_) (fun q => absurd ((nI_leI (a := 6) (b := 6) (by omega) (by omega)).mpr (Nat.le_refl _)) q)
    refine EV.iconst (pc := 125) (v := 0) dX5_digest_125 (by decide) ?_
    refine EV.istore_n (pc := 126) 1 dX5_digest_126 rfl (by decide) (by dsimp only [lst1, lk] <;> rfl) ?_
    exact l_ndg3 hI 400 0 h _ _ (by omega) hw
  | succ n ih =>
    intro i h v2 v3 hi hw
    have hi2 : i < 6 := by omega
    have hd := hI.1 i hi2
    refine EV.iload_n (pc := 9) dX5_digest_9 rfl ?_
    refine EV.bipush (pc := 10) (v := 6) dX5_digest_10 (by decide) ?_
    refine EV.icmp_ge (pc := 12) (tgt := 125) dX5_digest_12 (by decide) (fun q => absurd q (fun z => absurd ((nI_leI (a := 6) (b := i) (by omega) (by omega)).mp z) (by omega))) (fun _ => ?_)
    refine EV.aload_n (pc := 15) dX5_digest_15 rfl ?_
    refine EV.getf (pc := 16) dX5_digest_16 fgX5_7 (by decide) hw.h34 rfl ?_
    refine EV.iload_n (pc := 19) dX5_digest_19 rfl ?_
    refine EV.zald (pc := 20) dX5_digest_20 (by decide) hw.h35 (vp_in_nI (show i < 6 by omega) (by omega)) ?_
    refine EV.topi (y := b2i (!(s_lost s i))) (by rw [nI_clamp (by omega)]) ?_
    refine EV.if_ne (pc := 21) (tgt := 34) dX5_digest_21 (by decide) (fun c21 => ?_) (fun c21 => ?_)
    · refine EV.aload_n (pc := 34) dX5_digest_34 rfl ?_
      refine EV.aload_n (pc := 35) dX5_digest_35 rfl ?_
      refine EV.getf (pc := 36) dX5_digest_36 fgX5_13 (by decide) hw.h34 rfl ?_
      refine EV.iload_n (pc := 39) dX5_digest_39 rfl ?_
      refine EV.iald (pc := 40) dX5_digest_40 (by decide) hw.h36 (vp_in_nI (show i < 6 by omega) (by omega)) ?_
      refine EV.topi (y := nI (s_lane s i)) (by rw [nI_clamp (by omega)]) ?_
      refine EV.i2l (pc := 41) dX5_digest_41 ?_
      refine EV.topl (y := lN (s_lane s i)) (nI_L (by omega)) ?_
      refine EV.callVP0 (pc := 42) (M' := M_X5_mix) dX5_digest_42 lkX5_237 okV_X5_mix (n_mix _ hw) (by decide) rfl rfl (Nat.le_of_ble_eq_true rfl) (by decide) hw.h34 (fun h hw => ?_)
      refine EV.aload_n (pc := 45) dX5_digest_45 rfl ?_
      refine EV.aload_n (pc := 46) dX5_digest_46 rfl ?_
      refine EV.getf (pc := 47) dX5_digest_47 fgX5_17 (by decide) hw.h34 rfl ?_
      refine EV.iload_n (pc := 50) dX5_digest_50 rfl ?_
      refine EV.iald (pc := 51) dX5_digest_51 (by decide) hw.h37 (vp_in_nI (show i < 6 by omega) (by omega)) ?_
      refine EV.topi (y := nI (s_w s i)) (by rw [nI_clamp (by omega)]) ?_
      refine EV.i2l (pc := 52) dX5_digest_52 ?_
      refine EV.topl (y := lN (s_w s i)) (nI_L (by omega)) ?_
      refine EV.callVP0 (pc := 53) (M' := M_X5_mix) dX5_digest_53 lkX5_237 okV_X5_mix (n_mix _ hw) (by decide) rfl rfl (Nat.le_of_ble_eq_true rfl) (by decide) hw.h34 (fun h hw => ?_)
      refine EV.aload_n (pc := 56) dX5_digest_56 rfl ?_
      refine EV.aload_n (pc := 57) dX5_digest_57 rfl ?_
      refine EV.getf (pc := 58) dX5_digest_58 fgX5_20 (by decide) hw.h34 rfl ?_
      refine EV.iload_n (pc := 61) dX5_digest_61 rfl ?_
      refine EV.iald (pc := 62) dX5_digest_62 (by decide) hw.h38 (vp_in_nI (show i < 6 by omega) (by omega)) ?_
      refine EV.topi (y := nI (s_h s i)) (by rw [nI_clamp (by omega)]) ?_
      refine EV.i2l (pc := 63) dX5_digest_63 ?_
      refine EV.topl (y := lN (s_h s i)) (nI_L (by omega)) ?_
      refine EV.callVP0 (pc := 64) (M' := M_X5_mix) dX5_digest_64 lkX5_237 okV_X5_mix (n_mix _ hw) (by decide) rfl rfl (Nat.le_of_ble_eq_true rfl) (by decide) hw.h34 (fun h hw => ?_)
      refine EV.iconst (pc := 67) (v := 0) dX5_digest_67 (by decide) ?_
      refine EV.istore_n (pc := 68) 2 dX5_digest_68 rfl (by decide) (by dsimp only [lst1, lk] <;> rfl) ?_
      have e5 : dgPs s (i + 1) 113 = dgY (fun y x => (s_ct s i (y * 20 + x)).toInt64) (s_w s i) (s_h s i) (31 * (31 * (31 * dgPs s i 113 + lN (s_lane s i)) + lN (s_w s i)) + lN (s_h s i)) := by show dgP s i _ = _; unfold dgP; rw [if_neg (by rw [nb_F c21]; simp)]
      refine l_ndgy i hi2 _ hI _ (fun h v2 v3 hw => ?_) (s_h s i) 0 h _ (by omega) hw
      rw [← e5] at hw
      refine EV.iinc (pc := 119) dX5_digest_119 (by decide) rfl (by first | exact nI_inc _ | rfl) (by dsimp only [lst1, lk] <;> rfl) ?_
      refine EV.goto (pc := 122) (tgt := 9) dX5_digest_122 (by decide) ?_
      exact ih (i + 1) h _ _ (by omega) hw
    · refine EV.aload_n (pc := 24) dX5_digest_24 rfl ?_
      refine EV.ldc2 (pc := 25) dX5_digest_25 kcX5_160 ?_
      refine EV.callVP0 (pc := 28) (M' := M_X5_mix) dX5_digest_28 lkX5_237 okV_X5_mix (n_mix _ hw) (by decide) rfl rfl (Nat.le_of_ble_eq_true rfl) (by decide) hw.h34 (fun h hw => ?_)
      refine EV.goto (pc := 31) (tgt := 119) dX5_digest_31 (by decide) ?_
      refine EV.iinc (pc := 119) dX5_digest_119 (by decide) rfl (by first | exact nI_inc _ | rfl) (by dsimp only [lst1, lk] <;> rfl) ?_
      refine EV.goto (pc := 122) (tgt := 9) dX5_digest_122 (by decide) ?_
      refine ih (i + 1) h _ _ (by omega) ?_
      have e5 : dgPs s (i + 1) 113 = 31 * dgPs s i 113 + -1 := by show dgP s i _ = _; unfold dgP; rw [if_pos (nb_T c21)]
      rw [e5]
      exact hw

set_option maxHeartbeats 4000000 in
set_option maxRecDepth 100000 in
theorem q_digest {G : eG} {ad : Nat → Nat} {h : Nat → va_E} {s : St} {z : Zm} {hm : Nat → va_E} (hw : MW G ad s z hm h) (hI : Inv s)   : MC G M_X5_digest cX5_digest ad 54 [.ref (ad 34)] h (PM G ad hm (.long (f_digest s)) s) := by
  refine MC.of (by decide +kernel) (Nat.le_of_ble_eq_true rfl) (by dsimp only [linit, Nat.reduceSub, List.reduceReplicate] <;> rfl) ?_
  refine EV.aload_n (pc := 0) dX5_digest_0 rfl ?_
  refine EV.ldc2 (pc := 1) dX5_digest_1 kcX5_235 ?_
  refine EV.putf (pc := 4) dX5_digest_4 fpX5_232 (by decide) hw.h34 rfl rfl (Nat.le_of_ble_eq_true rfl) ?_
  refine EV.abs (Pr := MW G ad s (M_hh z 113) hm) (hw.set_hh 113) (fun h hw => ?_)
  refine EV.iconst (pc := 7) (v := 0) dX5_digest_7 (by decide) ?_
  refine EV.istore_n (pc := 8) 1 dX5_digest_8 rfl (by decide) (by dsimp only [lst1, lk] <;> rfl) ?_
  exact l_ndg1 hI 6 0 h _ _ rfl hw
