/-- the law's method -/
abbrev M_L_law : eM := (yL_law, 4, some .boolean, 7, 175)
theorem MW.carry {G : eG} {ad : Nat → Nat} {s : St} {z : Zm} {hm h h' : Nat → va_E} (hw : MW G ad s z hm h) (hf : ∀ k : Nat, 34 ≤ k → h' k = h k) : MW G ad s z h' h' := by
  obtain ⟨a1, a2, a3, a4, a5, a6, a7, a8, a9, a10, a11, a12, a13, a14, a15, a16, a17, a18, a19, a20, jk, fr⟩ := hw
  refine ⟨(hf 34 (by omega)).trans a1, (hf 35 (by omega)).trans a2, (hf 36 (by omega)).trans a3, (hf 37 (by omega)).trans a4, (hf 38 (by omega)).trans a5, (hf 39 (by omega)).trans a6, (hf 40 (by omega)).trans a7, (hf 41 (by omega)).trans a8, (hf 42 (by omega)).trans a9, (hf 43 (by omega)).trans a10, (hf 44 (by omega)).trans a11, (hf 45 (by omega)).trans a12, (hf 46 (by omega)).trans a13, (hf 47 (by omega)).trans a14, (hf 48 (by omega)).trans a15, (hf 49 (by omega)).trans a16, (hf 50 (by omega)).trans a17, (hf 51 (by omega)).trans a18, (hf 52 (by omega)).trans a19, (hf 53 (by omega)).trans a20, jk, fun _ _ => rfl⟩
theorem CW.carry {G : eG} {ad : Nat → Nat} {s : St} {z : Zc} {hm h h' : Nat → va_E} (hw : CW G ad s z hm h) (hf : ∀ k : Nat, k < 34 → h' k = h k) : CW G ad s z h' h' := by
  obtain ⟨a0, a1, a2, a3, a4, a5, a6, a7, a8, a9, p1, p2, c1, c2, c3, fr⟩ := hw
  refine ⟨(hf 0 (by omega)).trans a0, (hf 1 (by omega)).trans a1, (hf 2 (by omega)).trans a2, (hf 3 (by omega)).trans a3, (hf 4 (by omega)).trans a4, (hf 5 (by omega)).trans a5, (hf 6 (by omega)).trans a6, (hf 7 (by omega)).trans a7, (hf 8 (by omega)).trans a8, (hf 9 (by omega)).trans a9, fun p hp => (hf _ (by omega)).trans (p1 p hp), fun p hp => (hf _ (by omega)).trans (p2 p hp), fun c hc => (hf _ (by omega)).trans (c1 c hc), fun c hc => (hf _ (by omega)).trans (c2 c hc), fun c hc => (hf _ (by omega)).trans (c3 c hc), fun _ _ => rfl⟩
/-- class and reference hold one state -/
def BW (G : eG) (ad : Nat → Nat) (s : St) (h : Nat → va_E) : Prop := Inv s ∧ (∃ z : Zc, CW G ad s z h h) ∧ ∃ z : Zm, MW G ad s z h h
theorem and31 (x : Int32) : ∃ k : Nat, k < 32 ∧ x &&& 31 = nI k := by
  refine ⟨(x.toBitVec &&& 31#32).toNat, ?_, ?_⟩
  · rw [BitVec.toNat_and]
    have : x.toBitVec.toNat &&& (31#32).toNat ≤ (31#32).toNat := Nat.and_le_right
    have h2 : (31#32).toNat = 31 := rfl
    omega
  · rw [← Int32.toBitVec_inj, Int32.toBitVec_and]
    apply BitVec.eq_of_toNat_eq
    have h3 : (nI (x.toBitVec &&& 31#32).toNat).toBitVec = BitVec.ofNat 32 (x.toBitVec &&& 31#32).toNat := rfl
    rw [h3, BitVec.toNat_ofNat, Nat.mod_eq_of_lt (BitVec.isLt _)]
    rfl
theorem nI_k (i k : Nat) : nI i + nI k = nI (i + k) := nI_add i k

set_option maxHeartbeats 4000000 in
set_option maxRecDepth 100000 in
theorem lc_plate {G : eG} {ad : Nat → Nat} (b L : Nat) (xs : Nat → Int32) (s : St) (h : Nat → va_E) (i : Nat) (hB : BW G ad s h) (hi : i + 6 ≤ L) (hL : L ≤ 3072) (kx : ∀ (s : St) (h : Nat → va_E), BW G ad s h → EV G M_L_law cL_law (some (b, L, xs)) ad 54 (fun v _ => v = some (.int 1)) 18 [some (.ref b), some (.ref (ad 0)), some (.ref (ad 34)), some (.int (nI (i + 6)))] [] h) : EV G M_L_law cL_law (some (b, L, xs)) ad 54 (fun v _ => v = some (.int 1)) 164 [some (.ref b), some (.ref (ad 0)), some (.ref (ad 34)), some (.int (nI i))] [] h := by
  obtain ⟨hI, ⟨z, hw⟩, ⟨zm, hv⟩⟩ := hB
  refine EV.aload_n (pc := 164) dL_law_164 rfl ?_
  refine EV.aload_n (pc := 165) dL_law_165 rfl ?_
  refine EV.iload_n (pc := 166) dL_law_166 rfl ?_
  refine EV.iconst (pc := 167) (v := 1) dL_law_167 (by decide) ?_
  refine EV.iadd (pc := 168) dL_law_168 ?_
  refine EV.topi (y := nI (i + 1)) (nI_k i 1) ?_
  refine EV.sld (pc := 169) dL_law_169 (vp_in_nI (show i + 1 < L by omega) (by omega)) ?_
  refine EV.topi (y := xs (i + 1)) (by rw [nI_clamp (by omega)]) ?_
  refine EV.aload_n (pc := 170) dL_law_170 rfl ?_
  refine EV.iload_n (pc := 171) dL_law_171 rfl ?_
  refine EV.iconst (pc := 172) (v := 2) dL_law_172 (by decide) ?_
  refine EV.iadd (pc := 173) dL_law_173 ?_
  refine EV.topi (y := nI (i + 2)) (nI_k i 2) ?_
  refine EV.sld (pc := 174) dL_law_174 (vp_in_nI (show i + 2 < L by omega) (by omega)) ?_
  refine EV.topi (y := xs (i + 2)) (by rw [nI_clamp (by omega)]) ?_
  refine EV.aload_n (pc := 175) dL_law_175 rfl ?_
  refine EV.iload_n (pc := 176) dL_law_176 rfl ?_
  refine EV.iconst (pc := 177) (v := 3) dL_law_177 (by decide) ?_
  refine EV.iadd (pc := 178) dL_law_178 ?_
  refine EV.topi (y := nI (i + 3)) (nI_k i 3) ?_
  refine EV.sld (pc := 179) dL_law_179 (vp_in_nI (show i + 3 < L by omega) (by omega)) ?_
  refine EV.topi (y := xs (i + 3)) (by rw [nI_clamp (by omega)]) ?_
  refine EV.aload_n (pc := 180) dL_law_180 rfl ?_
  refine EV.iload_n (pc := 181) dL_law_181 rfl ?_
  refine EV.iconst (pc := 182) (v := 4) dL_law_182 (by decide) ?_
  refine EV.iadd (pc := 183) dL_law_183 ?_
  refine EV.topi (y := nI (i + 4)) (nI_k i 4) ?_
  refine EV.sld (pc := 184) dL_law_184 (vp_in_nI (show i + 4 < L by omega) (by omega)) ?_
  refine EV.topi (y := xs (i + 4)) (by rw [nI_clamp (by omega)]) ?_
  refine EV.callVPi (pc := 185) (M' := M_X4_plate) dL_law_185 lkL_13 okV_X4_plate (p_plate hw hI _ _ _ _) (by decide) rfl rfl (Nat.le_of_ble_eq_true rfl) (by decide) hw.h0 (fun h1 hc => ?_)
  obtain ⟨z1, hc⟩ := hc
  have hv1 := hv.carry hc.fr
  refine EV.aload_n (pc := 188) dL_law_188 rfl ?_
  refine EV.aload_n (pc := 189) dL_law_189 rfl ?_
  refine EV.iload_n (pc := 190) dL_law_190 rfl ?_
  refine EV.iconst (pc := 191) (v := 1) dL_law_191 (by decide) ?_
  refine EV.iadd (pc := 192) dL_law_192 ?_
  refine EV.topi (y := nI (i + 1)) (nI_k i 1) ?_
  refine EV.sld (pc := 193) dL_law_193 (vp_in_nI (show i + 1 < L by omega) (by omega)) ?_
  refine EV.topi (y := xs (i + 1)) (by rw [nI_clamp (by omega)]) ?_
  refine EV.aload_n (pc := 194) dL_law_194 rfl ?_
  refine EV.iload_n (pc := 195) dL_law_195 rfl ?_
  refine EV.iconst (pc := 196) (v := 2) dL_law_196 (by decide) ?_
  refine EV.iadd (pc := 197) dL_law_197 ?_
  refine EV.topi (y := nI (i + 2)) (nI_k i 2) ?_
  refine EV.sld (pc := 198) dL_law_198 (vp_in_nI (show i + 2 < L by omega) (by omega)) ?_
  refine EV.topi (y := xs (i + 2)) (by rw [nI_clamp (by omega)]) ?_
  refine EV.aload_n (pc := 199) dL_law_199 rfl ?_
  refine EV.iload_n (pc := 200) dL_law_200 rfl ?_
  refine EV.iconst (pc := 201) (v := 3) dL_law_201 (by decide) ?_
  refine EV.iadd (pc := 202) dL_law_202 ?_
  refine EV.topi (y := nI (i + 3)) (nI_k i 3) ?_
  refine EV.sld (pc := 203) dL_law_203 (vp_in_nI (show i + 3 < L by omega) (by omega)) ?_
  refine EV.topi (y := xs (i + 3)) (by rw [nI_clamp (by omega)]) ?_
  refine EV.aload_n (pc := 204) dL_law_204 rfl ?_
  refine EV.iload_n (pc := 205) dL_law_205 rfl ?_
  refine EV.iconst (pc := 206) (v := 4) dL_law_206 (by decide) ?_
  refine EV.iadd (pc := 207) dL_law_207 ?_
  refine EV.topi (y := nI (i + 4)) (nI_k i 4) ?_
  refine EV.sld (pc := 208) dL_law_208 (vp_in_nI (show i + 4 < L by omega) (by omega)) ?_
  refine EV.topi (y := xs (i + 4)) (by rw [nI_clamp (by omega)]) ?_
  refine EV.callVPi (pc := 209) (M' := M_X5_plate) dL_law_209 lkL_17 okV_X5_plate (q_plate hv1 hI _ _ _ _) (by decide) rfl rfl (Nat.le_of_ble_eq_true rfl) (by decide) hv1.h34 (fun h2 hd => ?_)
  obtain ⟨zm2, hd⟩ := hd
  refine EV.icmp_eq (pc := 212) (tgt := 1271) dL_law_212 (by decide) (fun _ => ?_) (fun q => absurd rfl q)
  refine EV.iinc (pc := 1271) dL_law_1271 (by decide) rfl (show nI i + Int32.ofInt 6 = nI (i + 6) from nI_k i 6) (by dsimp only [lst1, lk] <;> rfl) ?_
  refine EV.goto (pc := 1274) (tgt := 18) dL_law_1274 (by decide) ?_
  exact kx _ h2 ⟨(j_plate hI _ _ _ _), ⟨z1, hc.carry hd.fr⟩, ⟨zm2, hd.carry (fun _ _ => rfl)⟩⟩

set_option maxHeartbeats 4000000 in
set_option maxRecDepth 100000 in
theorem lc_put {G : eG} {ad : Nat → Nat} (b L : Nat) (xs : Nat → Int32) (s : St) (h : Nat → va_E) (i : Nat) (hB : BW G ad s h) (hi : i + 6 ≤ L) (hL : L ≤ 3072) (kx : ∀ (s : St) (h : Nat → va_E), BW G ad s h → EV G M_L_law cL_law (some (b, L, xs)) ad 54 (fun v _ => v = some (.int 1)) 18 [some (.ref b), some (.ref (ad 0)), some (.ref (ad 34)), some (.int (nI (i + 6)))] [] h) : EV G M_L_law cL_law (some (b, L, xs)) ad 54 (fun v _ => v = some (.int 1)) 217 [some (.ref b), some (.ref (ad 0)), some (.ref (ad 34)), some (.int (nI i))] [] h := by
  obtain ⟨hI, ⟨z, hw⟩, ⟨zm, hv⟩⟩ := hB
  refine EV.aload_n (pc := 217) dL_law_217 rfl ?_
  refine EV.aload_n (pc := 218) dL_law_218 rfl ?_
  refine EV.iload_n (pc := 219) dL_law_219 rfl ?_
  refine EV.iconst (pc := 220) (v := 1) dL_law_220 (by decide) ?_
  refine EV.iadd (pc := 221) dL_law_221 ?_
  refine EV.topi (y := nI (i + 1)) (nI_k i 1) ?_
  refine EV.sld (pc := 222) dL_law_222 (vp_in_nI (show i + 1 < L by omega) (by omega)) ?_
  refine EV.topi (y := xs (i + 1)) (by rw [nI_clamp (by omega)]) ?_
  refine EV.aload_n (pc := 223) dL_law_223 rfl ?_
  refine EV.iload_n (pc := 224) dL_law_224 rfl ?_
  refine EV.iconst (pc := 225) (v := 2) dL_law_225 (by decide) ?_
  refine EV.iadd (pc := 226) dL_law_226 ?_
  refine EV.topi (y := nI (i + 2)) (nI_k i 2) ?_
  refine EV.sld (pc := 227) dL_law_227 (vp_in_nI (show i + 2 < L by omega) (by omega)) ?_
  refine EV.topi (y := xs (i + 2)) (by rw [nI_clamp (by omega)]) ?_
  refine EV.aload_n (pc := 228) dL_law_228 rfl ?_
  refine EV.iload_n (pc := 229) dL_law_229 rfl ?_
  refine EV.iconst (pc := 230) (v := 3) dL_law_230 (by decide) ?_
  refine EV.iadd (pc := 231) dL_law_231 ?_
  refine EV.topi (y := nI (i + 3)) (nI_k i 3) ?_
  refine EV.sld (pc := 232) dL_law_232 (vp_in_nI (show i + 3 < L by omega) (by omega)) ?_
  refine EV.topi (y := xs (i + 3)) (by rw [nI_clamp (by omega)]) ?_
  refine EV.aload_n (pc := 233) dL_law_233 rfl ?_
  refine EV.iload_n (pc := 234) dL_law_234 rfl ?_
  refine EV.iconst (pc := 235) (v := 4) dL_law_235 (by decide) ?_
  refine EV.iadd (pc := 236) dL_law_236 ?_
  refine EV.topi (y := nI (i + 4)) (nI_k i 4) ?_
  refine EV.sld (pc := 237) dL_law_237 (vp_in_nI (show i + 4 < L by omega) (by omega)) ?_
  refine EV.topi (y := xs (i + 4)) (by rw [nI_clamp (by omega)]) ?_
  refine EV.aload_n (pc := 238) dL_law_238 rfl ?_
  refine EV.iload_n (pc := 239) dL_law_239 rfl ?_
  refine EV.iconst (pc := 240) (v := 5) dL_law_240 (by decide) ?_
  refine EV.iadd (pc := 241) dL_law_241 ?_
  refine EV.topi (y := nI (i + 5)) (nI_k i 5) ?_
  refine EV.sld (pc := 242) dL_law_242 (vp_in_nI (show i + 5 < L by omega) (by omega)) ?_
  refine EV.topi (y := xs (i + 5)) (by rw [nI_clamp (by omega)]) ?_
  refine EV.callVPi (pc := 243) (M' := M_X4_put) dL_law_243 lkL_18 okV_X4_put (p_put hw hI _ _ _ _ _) (by decide) rfl rfl (Nat.le_of_ble_eq_true rfl) (by decide) hw.h0 (fun h1 hc => ?_)
  obtain ⟨z1, hc⟩ := hc
  have hv1 := hv.carry hc.fr
  refine EV.aload_n (pc := 246) dL_law_246 rfl ?_
  refine EV.aload_n (pc := 247) dL_law_247 rfl ?_
  refine EV.iload_n (pc := 248) dL_law_248 rfl ?_
  refine EV.iconst (pc := 249) (v := 1) dL_law_249 (by decide) ?_
  refine EV.iadd (pc := 250) dL_law_250 ?_
  refine EV.topi (y := nI (i + 1)) (nI_k i 1) ?_
  refine EV.sld (pc := 251) dL_law_251 (vp_in_nI (show i + 1 < L by omega) (by omega)) ?_
  refine EV.topi (y := xs (i + 1)) (by rw [nI_clamp (by omega)]) ?_
  refine EV.aload_n (pc := 252) dL_law_252 rfl ?_
  refine EV.iload_n (pc := 253) dL_law_253 rfl ?_
  refine EV.iconst (pc := 254) (v := 2) dL_law_254 (by decide) ?_
  refine EV.iadd (pc := 255) dL_law_255 ?_
  refine EV.topi (y := nI (i + 2)) (nI_k i 2) ?_
  refine EV.sld (pc := 256) dL_law_256 (vp_in_nI (show i + 2 < L by omega) (by omega)) ?_
  refine EV.topi (y := xs (i + 2)) (by rw [nI_clamp (by omega)]) ?_
  refine EV.aload_n (pc := 257) dL_law_257 rfl ?_
  refine EV.iload_n (pc := 258) dL_law_258 rfl ?_
  refine EV.iconst (pc := 259) (v := 3) dL_law_259 (by decide) ?_
  refine EV.iadd (pc := 260) dL_law_260 ?_
  refine EV.topi (y := nI (i + 3)) (nI_k i 3) ?_
  refine EV.sld (pc := 261) dL_law_261 (vp_in_nI (show i + 3 < L by omega) (by omega)) ?_
  refine EV.topi (y := xs (i + 3)) (by rw [nI_clamp (by omega)]) ?_
  refine EV.aload_n (pc := 262) dL_law_262 rfl ?_
  refine EV.iload_n (pc := 263) dL_law_263 rfl ?_
  refine EV.iconst (pc := 264) (v := 4) dL_law_264 (by decide) ?_
  refine EV.iadd (pc := 265) dL_law_265 ?_
  refine EV.topi (y := nI (i + 4)) (nI_k i 4) ?_
  refine EV.sld (pc := 266) dL_law_266 (vp_in_nI (show i + 4 < L by omega) (by omega)) ?_
  refine EV.topi (y := xs (i + 4)) (by rw [nI_clamp (by omega)]) ?_
  refine EV.aload_n (pc := 267) dL_law_267 rfl ?_
  refine EV.iload_n (pc := 268) dL_law_268 rfl ?_
  refine EV.iconst (pc := 269) (v := 5) dL_law_269 (by decide) ?_
  refine EV.iadd (pc := 270) dL_law_270 ?_
  refine EV.topi (y := nI (i + 5)) (nI_k i 5) ?_
  refine EV.sld (pc := 271) dL_law_271 (vp_in_nI (show i + 5 < L by omega) (by omega)) ?_
  refine EV.topi (y := xs (i + 5)) (by rw [nI_clamp (by omega)]) ?_
  refine EV.callVPi (pc := 272) (M' := M_X5_put) dL_law_272 lkL_22 okV_X5_put (q_put hv1 hI _ _ _ _ _) (by decide) rfl rfl (Nat.le_of_ble_eq_true rfl) (by decide) hv1.h34 (fun h2 hd => ?_)
  obtain ⟨zm2, hd⟩ := hd
  refine EV.icmp_eq (pc := 275) (tgt := 1271) dL_law_275 (by decide) (fun _ => ?_) (fun q => absurd rfl q)
  refine EV.iinc (pc := 1271) dL_law_1271 (by decide) rfl (show nI i + Int32.ofInt 6 = nI (i + 6) from nI_k i 6) (by dsimp only [lst1, lk] <;> rfl) ?_
  refine EV.goto (pc := 1274) (tgt := 18) dL_law_1274 (by decide) ?_
  exact kx _ h2 ⟨(j_put hI _ _ _ _ _), ⟨z1, hc.carry hd.fr⟩, ⟨zm2, hd.carry (fun _ _ => rfl)⟩⟩

set_option maxHeartbeats 4000000 in
set_option maxRecDepth 100000 in
theorem lc_copy {G : eG} {ad : Nat → Nat} (b L : Nat) (xs : Nat → Int32) (s : St) (h : Nat → va_E) (i : Nat) (hB : BW G ad s h) (hi : i + 6 ≤ L) (hL : L ≤ 3072) (kx : ∀ (s : St) (h : Nat → va_E), BW G ad s h → EV G M_L_law cL_law (some (b, L, xs)) ad 54 (fun v _ => v = some (.int 1)) 18 [some (.ref b), some (.ref (ad 0)), some (.ref (ad 34)), some (.int (nI (i + 6)))] [] h) : EV G M_L_law cL_law (some (b, L, xs)) ad 54 (fun v _ => v = some (.int 1)) 280 [some (.ref b), some (.ref (ad 0)), some (.ref (ad 34)), some (.int (nI i))] [] h := by
  obtain ⟨hI, ⟨z, hw⟩, ⟨zm, hv⟩⟩ := hB
  refine EV.aload_n (pc := 280) dL_law_280 rfl ?_
  refine EV.aload_n (pc := 281) dL_law_281 rfl ?_
  refine EV.iload_n (pc := 282) dL_law_282 rfl ?_
  refine EV.iconst (pc := 283) (v := 1) dL_law_283 (by decide) ?_
  refine EV.iadd (pc := 284) dL_law_284 ?_
  refine EV.topi (y := nI (i + 1)) (nI_k i 1) ?_
  refine EV.sld (pc := 285) dL_law_285 (vp_in_nI (show i + 1 < L by omega) (by omega)) ?_
  refine EV.topi (y := xs (i + 1)) (by rw [nI_clamp (by omega)]) ?_
  refine EV.aload_n (pc := 286) dL_law_286 rfl ?_
  refine EV.iload_n (pc := 287) dL_law_287 rfl ?_
  refine EV.iconst (pc := 288) (v := 2) dL_law_288 (by decide) ?_
  refine EV.iadd (pc := 289) dL_law_289 ?_
  refine EV.topi (y := nI (i + 2)) (nI_k i 2) ?_
  refine EV.sld (pc := 290) dL_law_290 (vp_in_nI (show i + 2 < L by omega) (by omega)) ?_
  refine EV.topi (y := xs (i + 2)) (by rw [nI_clamp (by omega)]) ?_
  refine EV.callVPi (pc := 291) (M' := M_X4_copy) dL_law_291 lkL_23 okV_X4_copy (p_copy hw hI _ _) (by decide) rfl rfl (Nat.le_of_ble_eq_true rfl) (by decide) hw.h0 (fun h1 hc => ?_)
  obtain ⟨z1, hc⟩ := hc
  have hv1 := hv.carry hc.fr
  refine EV.aload_n (pc := 294) dL_law_294 rfl ?_
  refine EV.aload_n (pc := 295) dL_law_295 rfl ?_
  refine EV.iload_n (pc := 296) dL_law_296 rfl ?_
  refine EV.iconst (pc := 297) (v := 1) dL_law_297 (by decide) ?_
  refine EV.iadd (pc := 298) dL_law_298 ?_
  refine EV.topi (y := nI (i + 1)) (nI_k i 1) ?_
  refine EV.sld (pc := 299) dL_law_299 (vp_in_nI (show i + 1 < L by omega) (by omega)) ?_
  refine EV.topi (y := xs (i + 1)) (by rw [nI_clamp (by omega)]) ?_
  refine EV.aload_n (pc := 300) dL_law_300 rfl ?_
  refine EV.iload_n (pc := 301) dL_law_301 rfl ?_
  refine EV.iconst (pc := 302) (v := 2) dL_law_302 (by decide) ?_
  refine EV.iadd (pc := 303) dL_law_303 ?_
  refine EV.topi (y := nI (i + 2)) (nI_k i 2) ?_
  refine EV.sld (pc := 304) dL_law_304 (vp_in_nI (show i + 2 < L by omega) (by omega)) ?_
  refine EV.topi (y := xs (i + 2)) (by rw [nI_clamp (by omega)]) ?_
  refine EV.callVPi (pc := 305) (M' := M_X5_copy) dL_law_305 lkL_27 okV_X5_copy (q_copy hv1 hI _ _) (by decide) rfl rfl (Nat.le_of_ble_eq_true rfl) (by decide) hv1.h34 (fun h2 hd => ?_)
  obtain ⟨zm2, hd⟩ := hd
  refine EV.icmp_eq (pc := 308) (tgt := 1271) dL_law_308 (by decide) (fun _ => ?_) (fun q => absurd rfl q)
  refine EV.iinc (pc := 1271) dL_law_1271 (by decide) rfl (show nI i + Int32.ofInt 6 = nI (i + 6) from nI_k i 6) (by dsimp only [lst1, lk] <;> rfl) ?_
  refine EV.goto (pc := 1274) (tgt := 18) dL_law_1274 (by decide) ?_
  exact kx _ h2 ⟨(j_copy hI _ _), ⟨z1, hc.carry hd.fr⟩, ⟨zm2, hd.carry (fun _ _ => rfl)⟩⟩

set_option maxHeartbeats 4000000 in
set_option maxRecDepth 100000 in
theorem lc_less {G : eG} {ad : Nat → Nat} (b L : Nat) (xs : Nat → Int32) (s : St) (h : Nat → va_E) (i : Nat) (hB : BW G ad s h) (hi : i + 6 ≤ L) (hL : L ≤ 3072) (kx : ∀ (s : St) (h : Nat → va_E), BW G ad s h → EV G M_L_law cL_law (some (b, L, xs)) ad 54 (fun v _ => v = some (.int 1)) 18 [some (.ref b), some (.ref (ad 0)), some (.ref (ad 34)), some (.int (nI (i + 6)))] [] h) : EV G M_L_law cL_law (some (b, L, xs)) ad 54 (fun v _ => v = some (.int 1)) 313 [some (.ref b), some (.ref (ad 0)), some (.ref (ad 34)), some (.int (nI i))] [] h := by
  obtain ⟨hI, ⟨z, hw⟩, ⟨zm, hv⟩⟩ := hB
  refine EV.aload_n (pc := 313) dL_law_313 rfl ?_
  refine EV.aload_n (pc := 314) dL_law_314 rfl ?_
  refine EV.iload_n (pc := 315) dL_law_315 rfl ?_
  refine EV.iconst (pc := 316) (v := 1) dL_law_316 (by decide) ?_
  refine EV.iadd (pc := 317) dL_law_317 ?_
  refine EV.topi (y := nI (i + 1)) (nI_k i 1) ?_
  refine EV.sld (pc := 318) dL_law_318 (vp_in_nI (show i + 1 < L by omega) (by omega)) ?_
  refine EV.topi (y := xs (i + 1)) (by rw [nI_clamp (by omega)]) ?_
  refine EV.aload_n (pc := 319) dL_law_319 rfl ?_
  refine EV.iload_n (pc := 320) dL_law_320 rfl ?_
  refine EV.iconst (pc := 321) (v := 2) dL_law_321 (by decide) ?_
  refine EV.iadd (pc := 322) dL_law_322 ?_
  refine EV.topi (y := nI (i + 2)) (nI_k i 2) ?_
  refine EV.sld (pc := 323) dL_law_323 (vp_in_nI (show i + 2 < L by omega) (by omega)) ?_
  refine EV.topi (y := xs (i + 2)) (by rw [nI_clamp (by omega)]) ?_
  refine EV.callVPi (pc := 324) (M' := M_X4_less) dL_law_324 lkL_28 okV_X4_less (p_less hw hI _ _) (by decide) rfl rfl (Nat.le_of_ble_eq_true rfl) (by decide) hw.h0 (fun h1 hc => ?_)
  obtain ⟨z1, hc⟩ := hc
  have hv1 := hv.carry hc.fr
  refine EV.aload_n (pc := 327) dL_law_327 rfl ?_
  refine EV.aload_n (pc := 328) dL_law_328 rfl ?_
  refine EV.iload_n (pc := 329) dL_law_329 rfl ?_
  refine EV.iconst (pc := 330) (v := 1) dL_law_330 (by decide) ?_
  refine EV.iadd (pc := 331) dL_law_331 ?_
  refine EV.topi (y := nI (i + 1)) (nI_k i 1) ?_
  refine EV.sld (pc := 332) dL_law_332 (vp_in_nI (show i + 1 < L by omega) (by omega)) ?_
  refine EV.topi (y := xs (i + 1)) (by rw [nI_clamp (by omega)]) ?_
  refine EV.aload_n (pc := 333) dL_law_333 rfl ?_
  refine EV.iload_n (pc := 334) dL_law_334 rfl ?_
  refine EV.iconst (pc := 335) (v := 2) dL_law_335 (by decide) ?_
  refine EV.iadd (pc := 336) dL_law_336 ?_
  refine EV.topi (y := nI (i + 2)) (nI_k i 2) ?_
  refine EV.sld (pc := 337) dL_law_337 (vp_in_nI (show i + 2 < L by omega) (by omega)) ?_
  refine EV.topi (y := xs (i + 2)) (by rw [nI_clamp (by omega)]) ?_
  refine EV.callVPi (pc := 338) (M' := M_X5_less) dL_law_338 lkL_31 okV_X5_less (q_less hv1 hI _ _) (by decide) rfl rfl (Nat.le_of_ble_eq_true rfl) (by decide) hv1.h34 (fun h2 hd => ?_)
  obtain ⟨zm2, hd⟩ := hd
  refine EV.icmp_eq (pc := 341) (tgt := 1271) dL_law_341 (by decide) (fun _ => ?_) (fun q => absurd rfl q)
  refine EV.iinc (pc := 1271) dL_law_1271 (by decide) rfl (show nI i + Int32.ofInt 6 = nI (i + 6) from nI_k i 6) (by dsimp only [lst1, lk] <;> rfl) ?_
  refine EV.goto (pc := 1274) (tgt := 18) dL_law_1274 (by decide) ?_
  exact kx _ h2 ⟨(j_less hI _ _), ⟨z1, hc.carry hd.fr⟩, ⟨zm2, hd.carry (fun _ _ => rfl)⟩⟩

set_option maxHeartbeats 4000000 in
set_option maxRecDepth 100000 in
theorem lc_lose {G : eG} {ad : Nat → Nat} (b L : Nat) (xs : Nat → Int32) (s : St) (h : Nat → va_E) (i : Nat) (hB : BW G ad s h) (hi : i + 6 ≤ L) (hL : L ≤ 3072) (kx : ∀ (s : St) (h : Nat → va_E), BW G ad s h → EV G M_L_law cL_law (some (b, L, xs)) ad 54 (fun v _ => v = some (.int 1)) 18 [some (.ref b), some (.ref (ad 0)), some (.ref (ad 34)), some (.int (nI (i + 6)))] [] h) : EV G M_L_law cL_law (some (b, L, xs)) ad 54 (fun v _ => v = some (.int 1)) 346 [some (.ref b), some (.ref (ad 0)), some (.ref (ad 34)), some (.int (nI i))] [] h := by
  obtain ⟨hI, ⟨z, hw⟩, ⟨zm, hv⟩⟩ := hB
  refine EV.aload_n (pc := 346) dL_law_346 rfl ?_
  refine EV.aload_n (pc := 347) dL_law_347 rfl ?_
  refine EV.iload_n (pc := 348) dL_law_348 rfl ?_
  refine EV.iconst (pc := 349) (v := 1) dL_law_349 (by decide) ?_
  refine EV.iadd (pc := 350) dL_law_350 ?_
  refine EV.topi (y := nI (i + 1)) (nI_k i 1) ?_
  refine EV.sld (pc := 351) dL_law_351 (vp_in_nI (show i + 1 < L by omega) (by omega)) ?_
  refine EV.topi (y := xs (i + 1)) (by rw [nI_clamp (by omega)]) ?_
  refine EV.callVPi (pc := 352) (M' := M_X4_lose) dL_law_352 lkL_32 okV_X4_lose (p_lose hw hI _) (by decide) rfl rfl (Nat.le_of_ble_eq_true rfl) (by decide) hw.h0 (fun h1 hc => ?_)
  obtain ⟨z1, hc⟩ := hc
  have hv1 := hv.carry hc.fr
  refine EV.aload_n (pc := 355) dL_law_355 rfl ?_
  refine EV.aload_n (pc := 356) dL_law_356 rfl ?_
  refine EV.iload_n (pc := 357) dL_law_357 rfl ?_
  refine EV.iconst (pc := 358) (v := 1) dL_law_358 (by decide) ?_
  refine EV.iadd (pc := 359) dL_law_359 ?_
  refine EV.topi (y := nI (i + 1)) (nI_k i 1) ?_
  refine EV.sld (pc := 360) dL_law_360 (vp_in_nI (show i + 1 < L by omega) (by omega)) ?_
  refine EV.topi (y := xs (i + 1)) (by rw [nI_clamp (by omega)]) ?_
  refine EV.callVPi (pc := 361) (M' := M_X5_lose) dL_law_361 lkL_36 okV_X5_lose (q_lose hv1 hI _) (by decide) rfl rfl (Nat.le_of_ble_eq_true rfl) (by decide) hv1.h34 (fun h2 hd => ?_)
  obtain ⟨zm2, hd⟩ := hd
  refine EV.icmp_eq (pc := 364) (tgt := 1271) dL_law_364 (by decide) (fun _ => ?_) (fun q => absurd rfl q)
  refine EV.iinc (pc := 1271) dL_law_1271 (by decide) rfl (show nI i + Int32.ofInt 6 = nI (i + 6) from nI_k i 6) (by dsimp only [lst1, lk] <;> rfl) ?_
  refine EV.goto (pc := 1274) (tgt := 18) dL_law_1274 (by decide) ?_
  exact kx _ h2 ⟨(j_lose hI _), ⟨z1, hc.carry hd.fr⟩, ⟨zm2, hd.carry (fun _ _ => rfl)⟩⟩

set_option maxHeartbeats 4000000 in
set_option maxRecDepth 100000 in
theorem lc_bad {G : eG} {ad : Nat → Nat} (b L : Nat) (xs : Nat → Int32) (s : St) (h : Nat → va_E) (i : Nat) (hB : BW G ad s h) (hi : i + 6 ≤ L) (hL : L ≤ 3072) (kx : ∀ (s : St) (h : Nat → va_E), BW G ad s h → EV G M_L_law cL_law (some (b, L, xs)) ad 54 (fun v _ => v = some (.int 1)) 18 [some (.ref b), some (.ref (ad 0)), some (.ref (ad 34)), some (.int (nI (i + 6)))] [] h) : EV G M_L_law cL_law (some (b, L, xs)) ad 54 (fun v _ => v = some (.int 1)) 369 [some (.ref b), some (.ref (ad 0)), some (.ref (ad 34)), some (.int (nI i))] [] h := by
  obtain ⟨hI, ⟨z, hw⟩, ⟨zm, hv⟩⟩ := hB
  by_cases hb : xs (i + 3) = 0
  · skip
    refine EV.aload_n (pc := 369) dL_law_369 rfl ?_
    refine EV.aload_n (pc := 370) dL_law_370 rfl ?_
    refine EV.iload_n (pc := 371) dL_law_371 rfl ?_
    refine EV.iconst (pc := 372) (v := 1) dL_law_372 (by decide) ?_
    refine EV.iadd (pc := 373) dL_law_373 ?_
    refine EV.topi (y := nI (i + 1)) (nI_k i 1) ?_
    refine EV.sld (pc := 374) dL_law_374 (vp_in_nI (show i + 1 < L by omega) (by omega)) ?_
    refine EV.topi (y := xs (i + 1)) (by rw [nI_clamp (by omega)]) ?_
    refine EV.aload_n (pc := 375) dL_law_375 rfl ?_
    refine EV.iload_n (pc := 376) dL_law_376 rfl ?_
    refine EV.iconst (pc := 377) (v := 2) dL_law_377 (by decide) ?_
    refine EV.iadd (pc := 378) dL_law_378 ?_
    refine EV.topi (y := nI (i + 2)) (nI_k i 2) ?_
    refine EV.sld (pc := 379) dL_law_379 (vp_in_nI (show i + 2 < L by omega) (by omega)) ?_
    refine EV.topi (y := xs (i + 2)) (by rw [nI_clamp (by omega)]) ?_
    refine EV.aload_n (pc := 380) dL_law_380 rfl ?_
    refine EV.iload_n (pc := 381) dL_law_381 rfl ?_
    refine EV.iconst (pc := 382) (v := 3) dL_law_382 (by decide) ?_
    refine EV.iadd (pc := 383) dL_law_383 ?_
    refine EV.topi (y := nI (i + 3)) (nI_k i 3) ?_
    refine EV.sld (pc := 384) dL_law_384 (vp_in_nI (show i + 3 < L by omega) (by omega)) ?_
    refine EV.topi (y := xs (i + 3)) (by rw [nI_clamp (by omega)]) ?_
    refine EV.if_eq (pc := 385) (tgt := 392) dL_law_385 (by decide) (fun _ => ?_) (fun q => absurd hb q)
    refine EV.iconst (pc := 392) (v := 0) dL_law_392 (by decide) ?_
    refine EV.topi (y := b2i false) rfl ?_
    refine EV.callVPi (pc := 393) (M' := M_X4_bad) dL_law_393 lkL_37 okV_X4_bad (p_bad hw hI _ _ _) (by decide) rfl rfl (Nat.le_of_ble_eq_true rfl) (by decide) hw.h0 (fun h1 hc => ?_)
    obtain ⟨z1, hc⟩ := hc
    have hv1 := hv.carry hc.fr
    refine EV.aload_n (pc := 396) dL_law_396 rfl ?_
    refine EV.aload_n (pc := 397) dL_law_397 rfl ?_
    refine EV.iload_n (pc := 398) dL_law_398 rfl ?_
    refine EV.iconst (pc := 399) (v := 1) dL_law_399 (by decide) ?_
    refine EV.iadd (pc := 400) dL_law_400 ?_
    refine EV.topi (y := nI (i + 1)) (nI_k i 1) ?_
    refine EV.sld (pc := 401) dL_law_401 (vp_in_nI (show i + 1 < L by omega) (by omega)) ?_
    refine EV.topi (y := xs (i + 1)) (by rw [nI_clamp (by omega)]) ?_
    refine EV.aload_n (pc := 402) dL_law_402 rfl ?_
    refine EV.iload_n (pc := 403) dL_law_403 rfl ?_
    refine EV.iconst (pc := 404) (v := 2) dL_law_404 (by decide) ?_
    refine EV.iadd (pc := 405) dL_law_405 ?_
    refine EV.topi (y := nI (i + 2)) (nI_k i 2) ?_
    refine EV.sld (pc := 406) dL_law_406 (vp_in_nI (show i + 2 < L by omega) (by omega)) ?_
    refine EV.topi (y := xs (i + 2)) (by rw [nI_clamp (by omega)]) ?_
    refine EV.aload_n (pc := 407) dL_law_407 rfl ?_
    refine EV.iload_n (pc := 408) dL_law_408 rfl ?_
    refine EV.iconst (pc := 409) (v := 3) dL_law_409 (by decide) ?_
    refine EV.iadd (pc := 410) dL_law_410 ?_
    refine EV.topi (y := nI (i + 3)) (nI_k i 3) ?_
    refine EV.sld (pc := 411) dL_law_411 (vp_in_nI (show i + 3 < L by omega) (by omega)) ?_
    refine EV.topi (y := xs (i + 3)) (by rw [nI_clamp (by omega)]) ?_
    refine EV.if_eq (pc := 412) (tgt := 419) dL_law_412 (by decide) (fun _ => ?_) (fun q => absurd hb q)
    refine EV.iconst (pc := 419) (v := 0) dL_law_419 (by decide) ?_
    refine EV.topi (y := b2i false) rfl ?_
    refine EV.callVPi (pc := 420) (M' := M_X5_bad) dL_law_420 lkL_41 okV_X5_bad (q_bad hv1 hI _ _ _) (by decide) rfl rfl (Nat.le_of_ble_eq_true rfl) (by decide) hv1.h34 (fun h2 hd => ?_)
    obtain ⟨zm2, hd⟩ := hd
    refine EV.icmp_eq (pc := 423) (tgt := 1271) dL_law_423 (by decide) (fun _ => ?_) (fun q => absurd rfl q)
    refine EV.iinc (pc := 1271) dL_law_1271 (by decide) rfl (show nI i + Int32.ofInt 6 = nI (i + 6) from nI_k i 6) (by dsimp only [lst1, lk] <;> rfl) ?_
    refine EV.goto (pc := 1274) (tgt := 18) dL_law_1274 (by decide) ?_
    exact kx _ h2 ⟨(j_bad hI _ _ _), ⟨z1, hc.carry hd.fr⟩, ⟨zm2, hd.carry (fun _ _ => rfl)⟩⟩
  · skip
    refine EV.aload_n (pc := 369) dL_law_369 rfl ?_
    refine EV.aload_n (pc := 370) dL_law_370 rfl ?_
    refine EV.iload_n (pc := 371) dL_law_371 rfl ?_
    refine EV.iconst (pc := 372) (v := 1) dL_law_372 (by decide) ?_
    refine EV.iadd (pc := 373) dL_law_373 ?_
    refine EV.topi (y := nI (i + 1)) (nI_k i 1) ?_
    refine EV.sld (pc := 374) dL_law_374 (vp_in_nI (show i + 1 < L by omega) (by omega)) ?_
    refine EV.topi (y := xs (i + 1)) (by rw [nI_clamp (by omega)]) ?_
    refine EV.aload_n (pc := 375) dL_law_375 rfl ?_
    refine EV.iload_n (pc := 376) dL_law_376 rfl ?_
    refine EV.iconst (pc := 377) (v := 2) dL_law_377 (by decide) ?_
    refine EV.iadd (pc := 378) dL_law_378 ?_
    refine EV.topi (y := nI (i + 2)) (nI_k i 2) ?_
    refine EV.sld (pc := 379) dL_law_379 (vp_in_nI (show i + 2 < L by omega) (by omega)) ?_
    refine EV.topi (y := xs (i + 2)) (by rw [nI_clamp (by omega)]) ?_
    refine EV.aload_n (pc := 380) dL_law_380 rfl ?_
    refine EV.iload_n (pc := 381) dL_law_381 rfl ?_
    refine EV.iconst (pc := 382) (v := 3) dL_law_382 (by decide) ?_
    refine EV.iadd (pc := 383) dL_law_383 ?_
    refine EV.topi (y := nI (i + 3)) (nI_k i 3) ?_
    refine EV.sld (pc := 384) dL_law_384 (vp_in_nI (show i + 3 < L by omega) (by omega)) ?_
    refine EV.topi (y := xs (i + 3)) (by rw [nI_clamp (by omega)]) ?_
    refine EV.if_eq (pc := 385) (tgt := 392) dL_law_385 (by decide) (fun q => absurd q hb) (fun _ => ?_)
    refine EV.iconst (pc := 388) (v := 1) dL_law_388 (by decide) ?_
    refine EV.topi (y := b2i true) rfl ?_
    refine EV.goto (pc := 389) (tgt := 393) dL_law_389 (by decide) ?_
    refine EV.callVPi (pc := 393) (M' := M_X4_bad) dL_law_393 lkL_37 okV_X4_bad (p_bad hw hI _ _ _) (by decide) rfl rfl (Nat.le_of_ble_eq_true rfl) (by decide) hw.h0 (fun h1 hc => ?_)
    obtain ⟨z1, hc⟩ := hc
    have hv1 := hv.carry hc.fr
    refine EV.aload_n (pc := 396) dL_law_396 rfl ?_
    refine EV.aload_n (pc := 397) dL_law_397 rfl ?_
    refine EV.iload_n (pc := 398) dL_law_398 rfl ?_
    refine EV.iconst (pc := 399) (v := 1) dL_law_399 (by decide) ?_
    refine EV.iadd (pc := 400) dL_law_400 ?_
    refine EV.topi (y := nI (i + 1)) (nI_k i 1) ?_
    refine EV.sld (pc := 401) dL_law_401 (vp_in_nI (show i + 1 < L by omega) (by omega)) ?_
    refine EV.topi (y := xs (i + 1)) (by rw [nI_clamp (by omega)]) ?_
    refine EV.aload_n (pc := 402) dL_law_402 rfl ?_
    refine EV.iload_n (pc := 403) dL_law_403 rfl ?_
    refine EV.iconst (pc := 404) (v := 2) dL_law_404 (by decide) ?_
    refine EV.iadd (pc := 405) dL_law_405 ?_
    refine EV.topi (y := nI (i + 2)) (nI_k i 2) ?_
    refine EV.sld (pc := 406) dL_law_406 (vp_in_nI (show i + 2 < L by omega) (by omega)) ?_
    refine EV.topi (y := xs (i + 2)) (by rw [nI_clamp (by omega)]) ?_
    refine EV.aload_n (pc := 407) dL_law_407 rfl ?_
    refine EV.iload_n (pc := 408) dL_law_408 rfl ?_
    refine EV.iconst (pc := 409) (v := 3) dL_law_409 (by decide) ?_
    refine EV.iadd (pc := 410) dL_law_410 ?_
    refine EV.topi (y := nI (i + 3)) (nI_k i 3) ?_
    refine EV.sld (pc := 411) dL_law_411 (vp_in_nI (show i + 3 < L by omega) (by omega)) ?_
    refine EV.topi (y := xs (i + 3)) (by rw [nI_clamp (by omega)]) ?_
    refine EV.if_eq (pc := 412) (tgt := 419) dL_law_412 (by decide) (fun q => absurd q hb) (fun _ => ?_)
    refine EV.iconst (pc := 415) (v := 1) dL_law_415 (by decide) ?_
    refine EV.topi (y := b2i true) rfl ?_
    refine EV.goto (pc := 416) (tgt := 420) dL_law_416 (by decide) ?_
    refine EV.callVPi (pc := 420) (M' := M_X5_bad) dL_law_420 lkL_41 okV_X5_bad (q_bad hv1 hI _ _ _) (by decide) rfl rfl (Nat.le_of_ble_eq_true rfl) (by decide) hv1.h34 (fun h2 hd => ?_)
    obtain ⟨zm2, hd⟩ := hd
    refine EV.icmp_eq (pc := 423) (tgt := 1271) dL_law_423 (by decide) (fun _ => ?_) (fun q => absurd rfl q)
    refine EV.iinc (pc := 1271) dL_law_1271 (by decide) rfl (show nI i + Int32.ofInt 6 = nI (i + 6) from nI_k i 6) (by dsimp only [lst1, lk] <;> rfl) ?_
    refine EV.goto (pc := 1274) (tgt := 18) dL_law_1274 (by decide) ?_
    exact kx _ h2 ⟨(j_bad hI _ _ _), ⟨z1, hc.carry hd.fr⟩, ⟨zm2, hd.carry (fun _ _ => rfl)⟩⟩

set_option maxHeartbeats 4000000 in
set_option maxRecDepth 100000 in
theorem lc_look {G : eG} {ad : Nat → Nat} (b L : Nat) (xs : Nat → Int32) (s : St) (h : Nat → va_E) (i : Nat) (hB : BW G ad s h) (hi : i + 6 ≤ L) (hL : L ≤ 3072) (kx : ∀ (s : St) (h : Nat → va_E), BW G ad s h → EV G M_L_law cL_law (some (b, L, xs)) ad 54 (fun v _ => v = some (.int 1)) 18 [some (.ref b), some (.ref (ad 0)), some (.ref (ad 34)), some (.int (nI (i + 6)))] [] h) : EV G M_L_law cL_law (some (b, L, xs)) ad 54 (fun v _ => v = some (.int 1)) 428 [some (.ref b), some (.ref (ad 0)), some (.ref (ad 34)), some (.int (nI i))] [] h := by
  obtain ⟨hI, ⟨z, hw⟩, ⟨zm, hv⟩⟩ := hB
  refine EV.aload_n (pc := 428) dL_law_428 rfl ?_
  refine EV.aload_n (pc := 429) dL_law_429 rfl ?_
  refine EV.iload_n (pc := 430) dL_law_430 rfl ?_
  refine EV.iconst (pc := 431) (v := 1) dL_law_431 (by decide) ?_
  refine EV.iadd (pc := 432) dL_law_432 ?_
  refine EV.topi (y := nI (i + 1)) (nI_k i 1) ?_
  refine EV.sld (pc := 433) dL_law_433 (vp_in_nI (show i + 1 < L by omega) (by omega)) ?_
  refine EV.topi (y := xs (i + 1)) (by rw [nI_clamp (by omega)]) ?_
  refine EV.aload_n (pc := 434) dL_law_434 rfl ?_
  refine EV.iload_n (pc := 435) dL_law_435 rfl ?_
  refine EV.iconst (pc := 436) (v := 2) dL_law_436 (by decide) ?_
  refine EV.iadd (pc := 437) dL_law_437 ?_
  refine EV.topi (y := nI (i + 2)) (nI_k i 2) ?_
  refine EV.sld (pc := 438) dL_law_438 (vp_in_nI (show i + 2 < L by omega) (by omega)) ?_
  refine EV.topi (y := xs (i + 2)) (by rw [nI_clamp (by omega)]) ?_
  refine EV.aload_n (pc := 439) dL_law_439 rfl ?_
  refine EV.iload_n (pc := 440) dL_law_440 rfl ?_
  refine EV.iconst (pc := 441) (v := 3) dL_law_441 (by decide) ?_
  refine EV.iadd (pc := 442) dL_law_442 ?_
  refine EV.topi (y := nI (i + 3)) (nI_k i 3) ?_
  refine EV.sld (pc := 443) dL_law_443 (vp_in_nI (show i + 3 < L by omega) (by omega)) ?_
  refine EV.topi (y := xs (i + 3)) (by rw [nI_clamp (by omega)]) ?_
  refine EV.callVPi (pc := 444) (M' := M_X4_look) dL_law_444 lkL_42 okV_X4_look (p_look hw hI _ _ _) (by decide) rfl rfl (Nat.le_of_ble_eq_true rfl) (by decide) hw.h0 (fun h1 hc => ?_)
  obtain ⟨z1, hc⟩ := hc
  have hv1 := hv.carry hc.fr
  refine EV.aload_n (pc := 447) dL_law_447 rfl ?_
  refine EV.aload_n (pc := 448) dL_law_448 rfl ?_
  refine EV.iload_n (pc := 449) dL_law_449 rfl ?_
  refine EV.iconst (pc := 450) (v := 1) dL_law_450 (by decide) ?_
  refine EV.iadd (pc := 451) dL_law_451 ?_
  refine EV.topi (y := nI (i + 1)) (nI_k i 1) ?_
  refine EV.sld (pc := 452) dL_law_452 (vp_in_nI (show i + 1 < L by omega) (by omega)) ?_
  refine EV.topi (y := xs (i + 1)) (by rw [nI_clamp (by omega)]) ?_
  refine EV.aload_n (pc := 453) dL_law_453 rfl ?_
  refine EV.iload_n (pc := 454) dL_law_454 rfl ?_
  refine EV.iconst (pc := 455) (v := 2) dL_law_455 (by decide) ?_
  refine EV.iadd (pc := 456) dL_law_456 ?_
  refine EV.topi (y := nI (i + 2)) (nI_k i 2) ?_
  refine EV.sld (pc := 457) dL_law_457 (vp_in_nI (show i + 2 < L by omega) (by omega)) ?_
  refine EV.topi (y := xs (i + 2)) (by rw [nI_clamp (by omega)]) ?_
  refine EV.aload_n (pc := 458) dL_law_458 rfl ?_
  refine EV.iload_n (pc := 459) dL_law_459 rfl ?_
  refine EV.iconst (pc := 460) (v := 3) dL_law_460 (by decide) ?_
  refine EV.iadd (pc := 461) dL_law_461 ?_
  refine EV.topi (y := nI (i + 3)) (nI_k i 3) ?_
  refine EV.sld (pc := 462) dL_law_462 (vp_in_nI (show i + 3 < L by omega) (by omega)) ?_
  refine EV.topi (y := xs (i + 3)) (by rw [nI_clamp (by omega)]) ?_
  refine EV.callVPi (pc := 463) (M' := M_X5_look) dL_law_463 lkL_46 okV_X5_look (q_look hv1 hI _ _ _) (by decide) rfl rfl (Nat.le_of_ble_eq_true rfl) (by decide) hv1.h34 (fun h2 hd => ?_)
  obtain ⟨zm2, hd⟩ := hd
  refine EV.icmp_eq (pc := 466) (tgt := 1271) dL_law_466 (by decide) (fun _ => ?_) (fun q => absurd rfl q)
  refine EV.iinc (pc := 1271) dL_law_1271 (by decide) rfl (show nI i + Int32.ofInt 6 = nI (i + 6) from nI_k i 6) (by dsimp only [lst1, lk] <;> rfl) ?_
  refine EV.goto (pc := 1274) (tgt := 18) dL_law_1274 (by decide) ?_
  exact kx _ h2 ⟨(j_look hI _ _ _), ⟨z1, hc.carry hd.fr⟩, ⟨zm2, hd.carry (fun _ _ => rfl)⟩⟩

set_option maxHeartbeats 4000000 in
set_option maxRecDepth 100000 in
theorem lc_comb {G : eG} {ad : Nat → Nat} (b L : Nat) (xs : Nat → Int32) (s : St) (h : Nat → va_E) (i : Nat) (hB : BW G ad s h) (hi : i + 6 ≤ L) (hL : L ≤ 3072) (kx : ∀ (s : St) (h : Nat → va_E), BW G ad s h → EV G M_L_law cL_law (some (b, L, xs)) ad 54 (fun v _ => v = some (.int 1)) 18 [some (.ref b), some (.ref (ad 0)), some (.ref (ad 34)), some (.int (nI (i + 6)))] [] h) : EV G M_L_law cL_law (some (b, L, xs)) ad 54 (fun v _ => v = some (.int 1)) 471 [some (.ref b), some (.ref (ad 0)), some (.ref (ad 34)), some (.int (nI i))] [] h := by
  obtain ⟨hI, ⟨z, hw⟩, ⟨zm, hv⟩⟩ := hB
  refine EV.aload_n (pc := 471) dL_law_471 rfl ?_
  refine EV.aload_n (pc := 472) dL_law_472 rfl ?_
  refine EV.iload_n (pc := 473) dL_law_473 rfl ?_
  refine EV.iconst (pc := 474) (v := 1) dL_law_474 (by decide) ?_
  refine EV.iadd (pc := 475) dL_law_475 ?_
  refine EV.topi (y := nI (i + 1)) (nI_k i 1) ?_
  refine EV.sld (pc := 476) dL_law_476 (vp_in_nI (show i + 1 < L by omega) (by omega)) ?_
  refine EV.topi (y := xs (i + 1)) (by rw [nI_clamp (by omega)]) ?_
  refine EV.aload_n (pc := 477) dL_law_477 rfl ?_
  refine EV.iload_n (pc := 478) dL_law_478 rfl ?_
  refine EV.iconst (pc := 479) (v := 2) dL_law_479 (by decide) ?_
  refine EV.iadd (pc := 480) dL_law_480 ?_
  refine EV.topi (y := nI (i + 2)) (nI_k i 2) ?_
  refine EV.sld (pc := 481) dL_law_481 (vp_in_nI (show i + 2 < L by omega) (by omega)) ?_
  refine EV.topi (y := xs (i + 2)) (by rw [nI_clamp (by omega)]) ?_
  refine EV.aload_n (pc := 482) dL_law_482 rfl ?_
  refine EV.iload_n (pc := 483) dL_law_483 rfl ?_
  refine EV.iconst (pc := 484) (v := 3) dL_law_484 (by decide) ?_
  refine EV.iadd (pc := 485) dL_law_485 ?_
  refine EV.topi (y := nI (i + 3)) (nI_k i 3) ?_
  refine EV.sld (pc := 486) dL_law_486 (vp_in_nI (show i + 3 < L by omega) (by omega)) ?_
  refine EV.topi (y := xs (i + 3)) (by rw [nI_clamp (by omega)]) ?_
  refine EV.callVPi (pc := 487) (M' := M_X4_comb) dL_law_487 lkL_47 okV_X4_comb (p_comb hw hI _ _ _) (by decide) rfl rfl (Nat.le_of_ble_eq_true rfl) (by decide) hw.h0 (fun h1 hc => ?_)
  obtain ⟨z1, hc⟩ := hc
  have hv1 := hv.carry hc.fr
  refine EV.aload_n (pc := 490) dL_law_490 rfl ?_
  refine EV.aload_n (pc := 491) dL_law_491 rfl ?_
  refine EV.iload_n (pc := 492) dL_law_492 rfl ?_
  refine EV.iconst (pc := 493) (v := 1) dL_law_493 (by decide) ?_
  refine EV.iadd (pc := 494) dL_law_494 ?_
  refine EV.topi (y := nI (i + 1)) (nI_k i 1) ?_
  refine EV.sld (pc := 495) dL_law_495 (vp_in_nI (show i + 1 < L by omega) (by omega)) ?_
  refine EV.topi (y := xs (i + 1)) (by rw [nI_clamp (by omega)]) ?_
  refine EV.aload_n (pc := 496) dL_law_496 rfl ?_
  refine EV.iload_n (pc := 497) dL_law_497 rfl ?_
  refine EV.iconst (pc := 498) (v := 2) dL_law_498 (by decide) ?_
  refine EV.iadd (pc := 499) dL_law_499 ?_
  refine EV.topi (y := nI (i + 2)) (nI_k i 2) ?_
  refine EV.sld (pc := 500) dL_law_500 (vp_in_nI (show i + 2 < L by omega) (by omega)) ?_
  refine EV.topi (y := xs (i + 2)) (by rw [nI_clamp (by omega)]) ?_
  refine EV.aload_n (pc := 501) dL_law_501 rfl ?_
  refine EV.iload_n (pc := 502) dL_law_502 rfl ?_
  refine EV.iconst (pc := 503) (v := 3) dL_law_503 (by decide) ?_
  refine EV.iadd (pc := 504) dL_law_504 ?_
  refine EV.topi (y := nI (i + 3)) (nI_k i 3) ?_
  refine EV.sld (pc := 505) dL_law_505 (vp_in_nI (show i + 3 < L by omega) (by omega)) ?_
  refine EV.topi (y := xs (i + 3)) (by rw [nI_clamp (by omega)]) ?_
  refine EV.callVPi (pc := 506) (M' := M_X5_comb) dL_law_506 lkL_50 okV_X5_comb (q_comb hv1 hI _ _ _) (by decide) rfl rfl (Nat.le_of_ble_eq_true rfl) (by decide) hv1.h34 (fun h2 hd => ?_)
  obtain ⟨zm2, hd⟩ := hd
  refine EV.icmp_eq (pc := 509) (tgt := 1271) dL_law_509 (by decide) (fun _ => ?_) (fun q => absurd rfl q)
  refine EV.iinc (pc := 1271) dL_law_1271 (by decide) rfl (show nI i + Int32.ofInt 6 = nI (i + 6) from nI_k i 6) (by dsimp only [lst1, lk] <;> rfl) ?_
  refine EV.goto (pc := 1274) (tgt := 18) dL_law_1274 (by decide) ?_
  exact kx _ h2 ⟨(j_comb hI _ _ _), ⟨z1, hc.carry hd.fr⟩, ⟨zm2, hd.carry (fun _ _ => rfl)⟩⟩

set_option maxHeartbeats 4000000 in
set_option maxRecDepth 100000 in
theorem lc_told {G : eG} {ad : Nat → Nat} (b L : Nat) (xs : Nat → Int32) (s : St) (h : Nat → va_E) (i : Nat) (hB : BW G ad s h) (hi : i + 6 ≤ L) (hL : L ≤ 3072) (kx : ∀ (s : St) (h : Nat → va_E), BW G ad s h → EV G M_L_law cL_law (some (b, L, xs)) ad 54 (fun v _ => v = some (.int 1)) 18 [some (.ref b), some (.ref (ad 0)), some (.ref (ad 34)), some (.int (nI (i + 6)))] [] h) : EV G M_L_law cL_law (some (b, L, xs)) ad 54 (fun v _ => v = some (.int 1)) 514 [some (.ref b), some (.ref (ad 0)), some (.ref (ad 34)), some (.int (nI i))] [] h := by
  obtain ⟨hI, ⟨z, hw⟩, ⟨zm, hv⟩⟩ := hB
  refine EV.aload_n (pc := 514) dL_law_514 rfl ?_
  refine EV.aload_n (pc := 515) dL_law_515 rfl ?_
  refine EV.iload_n (pc := 516) dL_law_516 rfl ?_
  refine EV.iconst (pc := 517) (v := 1) dL_law_517 (by decide) ?_
  refine EV.iadd (pc := 518) dL_law_518 ?_
  refine EV.topi (y := nI (i + 1)) (nI_k i 1) ?_
  refine EV.sld (pc := 519) dL_law_519 (vp_in_nI (show i + 1 < L by omega) (by omega)) ?_
  refine EV.topi (y := xs (i + 1)) (by rw [nI_clamp (by omega)]) ?_
  refine EV.aload_n (pc := 520) dL_law_520 rfl ?_
  refine EV.iload_n (pc := 521) dL_law_521 rfl ?_
  refine EV.iconst (pc := 522) (v := 2) dL_law_522 (by decide) ?_
  refine EV.iadd (pc := 523) dL_law_523 ?_
  refine EV.topi (y := nI (i + 2)) (nI_k i 2) ?_
  refine EV.sld (pc := 524) dL_law_524 (vp_in_nI (show i + 2 < L by omega) (by omega)) ?_
  refine EV.topi (y := xs (i + 2)) (by rw [nI_clamp (by omega)]) ?_
  refine EV.callVPi (pc := 525) (M' := M_X4_told) dL_law_525 lkL_51 okV_X4_told (p_told hw hI _ _) (by decide) rfl rfl (Nat.le_of_ble_eq_true rfl) (by decide) hw.h0 (fun h1 hc => ?_)
  obtain ⟨z1, hc⟩ := hc
  have hv1 := hv.carry hc.fr
  refine EV.aload_n (pc := 528) dL_law_528 rfl ?_
  refine EV.aload_n (pc := 529) dL_law_529 rfl ?_
  refine EV.iload_n (pc := 530) dL_law_530 rfl ?_
  refine EV.iconst (pc := 531) (v := 1) dL_law_531 (by decide) ?_
  refine EV.iadd (pc := 532) dL_law_532 ?_
  refine EV.topi (y := nI (i + 1)) (nI_k i 1) ?_
  refine EV.sld (pc := 533) dL_law_533 (vp_in_nI (show i + 1 < L by omega) (by omega)) ?_
  refine EV.topi (y := xs (i + 1)) (by rw [nI_clamp (by omega)]) ?_
  refine EV.aload_n (pc := 534) dL_law_534 rfl ?_
  refine EV.iload_n (pc := 535) dL_law_535 rfl ?_
  refine EV.iconst (pc := 536) (v := 2) dL_law_536 (by decide) ?_
  refine EV.iadd (pc := 537) dL_law_537 ?_
  refine EV.topi (y := nI (i + 2)) (nI_k i 2) ?_
  refine EV.sld (pc := 538) dL_law_538 (vp_in_nI (show i + 2 < L by omega) (by omega)) ?_
  refine EV.topi (y := xs (i + 2)) (by rw [nI_clamp (by omega)]) ?_
  refine EV.callVPi (pc := 539) (M' := M_X5_told) dL_law_539 lkL_54 okV_X5_told (q_told hv1 hI _ _) (by decide) rfl rfl (Nat.le_of_ble_eq_true rfl) (by decide) hv1.h34 (fun h2 hd => ?_)
  obtain ⟨zm2, hd⟩ := hd
  refine EV.icmp_eq (pc := 542) (tgt := 1271) dL_law_542 (by decide) (fun _ => ?_) (fun q => absurd rfl q)
  refine EV.iinc (pc := 1271) dL_law_1271 (by decide) rfl (show nI i + Int32.ofInt 6 = nI (i + 6) from nI_k i 6) (by dsimp only [lst1, lk] <;> rfl) ?_
  refine EV.goto (pc := 1274) (tgt := 18) dL_law_1274 (by decide) ?_
  exact kx _ h2 ⟨hI, ⟨z1, hc.carry hd.fr⟩, ⟨zm2, hd.carry (fun _ _ => rfl)⟩⟩

set_option maxHeartbeats 4000000 in
set_option maxRecDepth 100000 in
theorem lc_band {G : eG} {ad : Nat → Nat} (b L : Nat) (xs : Nat → Int32) (s : St) (h : Nat → va_E) (i : Nat) (hB : BW G ad s h) (hi : i + 6 ≤ L) (hL : L ≤ 3072) (kx : ∀ (s : St) (h : Nat → va_E), BW G ad s h → EV G M_L_law cL_law (some (b, L, xs)) ad 54 (fun v _ => v = some (.int 1)) 18 [some (.ref b), some (.ref (ad 0)), some (.ref (ad 34)), some (.int (nI (i + 6)))] [] h) : EV G M_L_law cL_law (some (b, L, xs)) ad 54 (fun v _ => v = some (.int 1)) 547 [some (.ref b), some (.ref (ad 0)), some (.ref (ad 34)), some (.int (nI i))] [] h := by
  obtain ⟨hI, ⟨z, hw⟩, ⟨zm, hv⟩⟩ := hB
  refine EV.aload_n (pc := 547) dL_law_547 rfl ?_
  refine EV.aload_n (pc := 548) dL_law_548 rfl ?_
  refine EV.iload_n (pc := 549) dL_law_549 rfl ?_
  refine EV.iconst (pc := 550) (v := 1) dL_law_550 (by decide) ?_
  refine EV.iadd (pc := 551) dL_law_551 ?_
  refine EV.topi (y := nI (i + 1)) (nI_k i 1) ?_
  refine EV.sld (pc := 552) dL_law_552 (vp_in_nI (show i + 1 < L by omega) (by omega)) ?_
  refine EV.topi (y := xs (i + 1)) (by rw [nI_clamp (by omega)]) ?_
  refine EV.aload_n (pc := 553) dL_law_553 rfl ?_
  refine EV.iload_n (pc := 554) dL_law_554 rfl ?_
  refine EV.iconst (pc := 555) (v := 2) dL_law_555 (by decide) ?_
  refine EV.iadd (pc := 556) dL_law_556 ?_
  refine EV.topi (y := nI (i + 2)) (nI_k i 2) ?_
  refine EV.sld (pc := 557) dL_law_557 (vp_in_nI (show i + 2 < L by omega) (by omega)) ?_
  refine EV.topi (y := xs (i + 2)) (by rw [nI_clamp (by omega)]) ?_
  refine EV.aload_n (pc := 558) dL_law_558 rfl ?_
  refine EV.iload_n (pc := 559) dL_law_559 rfl ?_
  refine EV.iconst (pc := 560) (v := 3) dL_law_560 (by decide) ?_
  refine EV.iadd (pc := 561) dL_law_561 ?_
  refine EV.topi (y := nI (i + 3)) (nI_k i 3) ?_
  refine EV.sld (pc := 562) dL_law_562 (vp_in_nI (show i + 3 < L by omega) (by omega)) ?_
  refine EV.topi (y := xs (i + 3)) (by rw [nI_clamp (by omega)]) ?_
  refine EV.aload_n (pc := 563) dL_law_563 rfl ?_
  refine EV.iload_n (pc := 564) dL_law_564 rfl ?_
  refine EV.iconst (pc := 565) (v := 4) dL_law_565 (by decide) ?_
  refine EV.iadd (pc := 566) dL_law_566 ?_
  refine EV.topi (y := nI (i + 4)) (nI_k i 4) ?_
  refine EV.sld (pc := 567) dL_law_567 (vp_in_nI (show i + 4 < L by omega) (by omega)) ?_
  refine EV.topi (y := xs (i + 4)) (by rw [nI_clamp (by omega)]) ?_
  refine EV.callVPi (pc := 568) (M' := M_X4_band) dL_law_568 lkL_55 okV_X4_band (p_band hw hI _ _ _ _) (by decide) rfl rfl (Nat.le_of_ble_eq_true rfl) (by decide) hw.h0 (fun h1 hc => ?_)
  obtain ⟨z1, hc⟩ := hc
  have hv1 := hv.carry hc.fr
  refine EV.aload_n (pc := 571) dL_law_571 rfl ?_
  refine EV.aload_n (pc := 572) dL_law_572 rfl ?_
  refine EV.iload_n (pc := 573) dL_law_573 rfl ?_
  refine EV.iconst (pc := 574) (v := 1) dL_law_574 (by decide) ?_
  refine EV.iadd (pc := 575) dL_law_575 ?_
  refine EV.topi (y := nI (i + 1)) (nI_k i 1) ?_
  refine EV.sld (pc := 576) dL_law_576 (vp_in_nI (show i + 1 < L by omega) (by omega)) ?_
  refine EV.topi (y := xs (i + 1)) (by rw [nI_clamp (by omega)]) ?_
  refine EV.aload_n (pc := 577) dL_law_577 rfl ?_
  refine EV.iload_n (pc := 578) dL_law_578 rfl ?_
  refine EV.iconst (pc := 579) (v := 2) dL_law_579 (by decide) ?_
  refine EV.iadd (pc := 580) dL_law_580 ?_
  refine EV.topi (y := nI (i + 2)) (nI_k i 2) ?_
  refine EV.sld (pc := 581) dL_law_581 (vp_in_nI (show i + 2 < L by omega) (by omega)) ?_
  refine EV.topi (y := xs (i + 2)) (by rw [nI_clamp (by omega)]) ?_
  refine EV.aload_n (pc := 582) dL_law_582 rfl ?_
  refine EV.iload_n (pc := 583) dL_law_583 rfl ?_
  refine EV.iconst (pc := 584) (v := 3) dL_law_584 (by decide) ?_
  refine EV.iadd (pc := 585) dL_law_585 ?_
  refine EV.topi (y := nI (i + 3)) (nI_k i 3) ?_
  refine EV.sld (pc := 586) dL_law_586 (vp_in_nI (show i + 3 < L by omega) (by omega)) ?_
  refine EV.topi (y := xs (i + 3)) (by rw [nI_clamp (by omega)]) ?_
  refine EV.aload_n (pc := 587) dL_law_587 rfl ?_
  refine EV.iload_n (pc := 588) dL_law_588 rfl ?_
  refine EV.iconst (pc := 589) (v := 4) dL_law_589 (by decide) ?_
  refine EV.iadd (pc := 590) dL_law_590 ?_
  refine EV.topi (y := nI (i + 4)) (nI_k i 4) ?_
  refine EV.sld (pc := 591) dL_law_591 (vp_in_nI (show i + 4 < L by omega) (by omega)) ?_
  refine EV.topi (y := xs (i + 4)) (by rw [nI_clamp (by omega)]) ?_
  refine EV.callVPi (pc := 592) (M' := M_X5_band) dL_law_592 lkL_58 okV_X5_band (q_band hv1 hI _ _ _ _) (by decide) rfl rfl (Nat.le_of_ble_eq_true rfl) (by decide) hv1.h34 (fun h2 hd => ?_)
  obtain ⟨zm2, hd⟩ := hd
  refine EV.icmp_eq (pc := 595) (tgt := 1271) dL_law_595 (by decide) (fun _ => ?_) (fun q => absurd rfl q)
  refine EV.iinc (pc := 1271) dL_law_1271 (by decide) rfl (show nI i + Int32.ofInt 6 = nI (i + 6) from nI_k i 6) (by dsimp only [lst1, lk] <;> rfl) ?_
  refine EV.goto (pc := 1274) (tgt := 18) dL_law_1274 (by decide) ?_
  exact kx _ h2 ⟨(j_band hI _ _ _ _), ⟨z1, hc.carry hd.fr⟩, ⟨zm2, hd.carry (fun _ _ => rfl)⟩⟩

set_option maxHeartbeats 4000000 in
set_option maxRecDepth 100000 in
theorem lc_trace {G : eG} {ad : Nat → Nat} (b L : Nat) (xs : Nat → Int32) (s : St) (h : Nat → va_E) (i : Nat) (hB : BW G ad s h) (hi : i + 6 ≤ L) (hL : L ≤ 3072) (kx : ∀ (s : St) (h : Nat → va_E), BW G ad s h → EV G M_L_law cL_law (some (b, L, xs)) ad 54 (fun v _ => v = some (.int 1)) 18 [some (.ref b), some (.ref (ad 0)), some (.ref (ad 34)), some (.int (nI (i + 6)))] [] h) : EV G M_L_law cL_law (some (b, L, xs)) ad 54 (fun v _ => v = some (.int 1)) 600 [some (.ref b), some (.ref (ad 0)), some (.ref (ad 34)), some (.int (nI i))] [] h := by
  obtain ⟨hI, ⟨z, hw⟩, ⟨zm, hv⟩⟩ := hB
  refine EV.aload_n (pc := 600) dL_law_600 rfl ?_
  refine EV.aload_n (pc := 601) dL_law_601 rfl ?_
  refine EV.iload_n (pc := 602) dL_law_602 rfl ?_
  refine EV.iconst (pc := 603) (v := 1) dL_law_603 (by decide) ?_
  refine EV.iadd (pc := 604) dL_law_604 ?_
  refine EV.topi (y := nI (i + 1)) (nI_k i 1) ?_
  refine EV.sld (pc := 605) dL_law_605 (vp_in_nI (show i + 1 < L by omega) (by omega)) ?_
  refine EV.topi (y := xs (i + 1)) (by rw [nI_clamp (by omega)]) ?_
  refine EV.aload_n (pc := 606) dL_law_606 rfl ?_
  refine EV.iload_n (pc := 607) dL_law_607 rfl ?_
  refine EV.iconst (pc := 608) (v := 2) dL_law_608 (by decide) ?_
  refine EV.iadd (pc := 609) dL_law_609 ?_
  refine EV.topi (y := nI (i + 2)) (nI_k i 2) ?_
  refine EV.sld (pc := 610) dL_law_610 (vp_in_nI (show i + 2 < L by omega) (by omega)) ?_
  refine EV.topi (y := xs (i + 2)) (by rw [nI_clamp (by omega)]) ?_
  refine EV.callVPi (pc := 611) (M' := M_X4_trace) dL_law_611 lkL_59 okV_X4_trace (p_trace hw hI _ _) (by decide) rfl rfl (Nat.le_of_ble_eq_true rfl) (by decide) hw.h0 (fun h1 hc => ?_)
  obtain ⟨z1, hc⟩ := hc
  have hv1 := hv.carry hc.fr
  refine EV.aload_n (pc := 614) dL_law_614 rfl ?_
  refine EV.aload_n (pc := 615) dL_law_615 rfl ?_
  refine EV.iload_n (pc := 616) dL_law_616 rfl ?_
  refine EV.iconst (pc := 617) (v := 1) dL_law_617 (by decide) ?_
  refine EV.iadd (pc := 618) dL_law_618 ?_
  refine EV.topi (y := nI (i + 1)) (nI_k i 1) ?_
  refine EV.sld (pc := 619) dL_law_619 (vp_in_nI (show i + 1 < L by omega) (by omega)) ?_
  refine EV.topi (y := xs (i + 1)) (by rw [nI_clamp (by omega)]) ?_
  refine EV.aload_n (pc := 620) dL_law_620 rfl ?_
  refine EV.iload_n (pc := 621) dL_law_621 rfl ?_
  refine EV.iconst (pc := 622) (v := 2) dL_law_622 (by decide) ?_
  refine EV.iadd (pc := 623) dL_law_623 ?_
  refine EV.topi (y := nI (i + 2)) (nI_k i 2) ?_
  refine EV.sld (pc := 624) dL_law_624 (vp_in_nI (show i + 2 < L by omega) (by omega)) ?_
  refine EV.topi (y := xs (i + 2)) (by rw [nI_clamp (by omega)]) ?_
  refine EV.callVPi (pc := 625) (M' := M_X5_trace) dL_law_625 lkL_62 okV_X5_trace (q_trace hv1 hI _ _) (by decide) rfl rfl (Nat.le_of_ble_eq_true rfl) (by decide) hv1.h34 (fun h2 hd => ?_)
  obtain ⟨zm2, hd⟩ := hd
  refine EV.icmp_eq (pc := 628) (tgt := 1271) dL_law_628 (by decide) (fun _ => ?_) (fun q => absurd rfl q)
  refine EV.iinc (pc := 1271) dL_law_1271 (by decide) rfl (show nI i + Int32.ofInt 6 = nI (i + 6) from nI_k i 6) (by dsimp only [lst1, lk] <;> rfl) ?_
  refine EV.goto (pc := 1274) (tgt := 18) dL_law_1274 (by decide) ?_
  exact kx _ h2 ⟨(j_trace hI _ _), ⟨z1, hc.carry hd.fr⟩, ⟨zm2, hd.carry (fun _ _ => rfl)⟩⟩

set_option maxHeartbeats 4000000 in
set_option maxRecDepth 100000 in
theorem lc_draw {G : eG} {ad : Nat → Nat} (b L : Nat) (xs : Nat → Int32) (s : St) (h : Nat → va_E) (i : Nat) (hB : BW G ad s h) (hi : i + 6 ≤ L) (hL : L ≤ 3072) (kx : ∀ (s : St) (h : Nat → va_E), BW G ad s h → EV G M_L_law cL_law (some (b, L, xs)) ad 54 (fun v _ => v = some (.int 1)) 18 [some (.ref b), some (.ref (ad 0)), some (.ref (ad 34)), some (.int (nI (i + 6)))] [] h) : EV G M_L_law cL_law (some (b, L, xs)) ad 54 (fun v _ => v = some (.int 1)) 633 [some (.ref b), some (.ref (ad 0)), some (.ref (ad 34)), some (.int (nI i))] [] h := by
  obtain ⟨hI, ⟨z, hw⟩, ⟨zm, hv⟩⟩ := hB
  refine EV.aload_n (pc := 633) dL_law_633 rfl ?_
  refine EV.aload_n (pc := 634) dL_law_634 rfl ?_
  refine EV.iload_n (pc := 635) dL_law_635 rfl ?_
  refine EV.iconst (pc := 636) (v := 1) dL_law_636 (by decide) ?_
  refine EV.iadd (pc := 637) dL_law_637 ?_
  refine EV.topi (y := nI (i + 1)) (nI_k i 1) ?_
  refine EV.sld (pc := 638) dL_law_638 (vp_in_nI (show i + 1 < L by omega) (by omega)) ?_
  refine EV.topi (y := xs (i + 1)) (by rw [nI_clamp (by omega)]) ?_
  refine EV.aload_n (pc := 639) dL_law_639 rfl ?_
  refine EV.iload_n (pc := 640) dL_law_640 rfl ?_
  refine EV.iconst (pc := 641) (v := 2) dL_law_641 (by decide) ?_
  refine EV.iadd (pc := 642) dL_law_642 ?_
  refine EV.topi (y := nI (i + 2)) (nI_k i 2) ?_
  refine EV.sld (pc := 643) dL_law_643 (vp_in_nI (show i + 2 < L by omega) (by omega)) ?_
  refine EV.topi (y := xs (i + 2)) (by rw [nI_clamp (by omega)]) ?_
  refine EV.aload_n (pc := 644) dL_law_644 rfl ?_
  refine EV.iload_n (pc := 645) dL_law_645 rfl ?_
  refine EV.iconst (pc := 646) (v := 3) dL_law_646 (by decide) ?_
  refine EV.iadd (pc := 647) dL_law_647 ?_
  refine EV.topi (y := nI (i + 3)) (nI_k i 3) ?_
  refine EV.sld (pc := 648) dL_law_648 (vp_in_nI (show i + 3 < L by omega) (by omega)) ?_
  refine EV.topi (y := xs (i + 3)) (by rw [nI_clamp (by omega)]) ?_
  refine EV.aload_n (pc := 649) dL_law_649 rfl ?_
  refine EV.iload_n (pc := 650) dL_law_650 rfl ?_
  refine EV.iconst (pc := 651) (v := 4) dL_law_651 (by decide) ?_
  refine EV.iadd (pc := 652) dL_law_652 ?_
  refine EV.topi (y := nI (i + 4)) (nI_k i 4) ?_
  refine EV.sld (pc := 653) dL_law_653 (vp_in_nI (show i + 4 < L by omega) (by omega)) ?_
  refine EV.topi (y := xs (i + 4)) (by rw [nI_clamp (by omega)]) ?_
  refine EV.callVPi (pc := 654) (M' := M_X4_draw) dL_law_654 lkL_63 okV_X4_draw (p_draw hw hI _ _ _ _) (by decide) rfl rfl (Nat.le_of_ble_eq_true rfl) (by decide) hw.h0 (fun h1 hc => ?_)
  obtain ⟨z1, hc⟩ := hc
  have hv1 := hv.carry hc.fr
  refine EV.aload_n (pc := 657) dL_law_657 rfl ?_
  refine EV.aload_n (pc := 658) dL_law_658 rfl ?_
  refine EV.iload_n (pc := 659) dL_law_659 rfl ?_
  refine EV.iconst (pc := 660) (v := 1) dL_law_660 (by decide) ?_
  refine EV.iadd (pc := 661) dL_law_661 ?_
  refine EV.topi (y := nI (i + 1)) (nI_k i 1) ?_
  refine EV.sld (pc := 662) dL_law_662 (vp_in_nI (show i + 1 < L by omega) (by omega)) ?_
  refine EV.topi (y := xs (i + 1)) (by rw [nI_clamp (by omega)]) ?_
  refine EV.aload_n (pc := 663) dL_law_663 rfl ?_
  refine EV.iload_n (pc := 664) dL_law_664 rfl ?_
  refine EV.iconst (pc := 665) (v := 2) dL_law_665 (by decide) ?_
  refine EV.iadd (pc := 666) dL_law_666 ?_
  refine EV.topi (y := nI (i + 2)) (nI_k i 2) ?_
  refine EV.sld (pc := 667) dL_law_667 (vp_in_nI (show i + 2 < L by omega) (by omega)) ?_
  refine EV.topi (y := xs (i + 2)) (by rw [nI_clamp (by omega)]) ?_
  refine EV.aload_n (pc := 668) dL_law_668 rfl ?_
  refine EV.iload_n (pc := 669) dL_law_669 rfl ?_
  refine EV.iconst (pc := 670) (v := 3) dL_law_670 (by decide) ?_
  refine EV.iadd (pc := 671) dL_law_671 ?_
  refine EV.topi (y := nI (i + 3)) (nI_k i 3) ?_
  refine EV.sld (pc := 672) dL_law_672 (vp_in_nI (show i + 3 < L by omega) (by omega)) ?_
  refine EV.topi (y := xs (i + 3)) (by rw [nI_clamp (by omega)]) ?_
  refine EV.aload_n (pc := 673) dL_law_673 rfl ?_
  refine EV.iload_n (pc := 674) dL_law_674 rfl ?_
  refine EV.iconst (pc := 675) (v := 4) dL_law_675 (by decide) ?_
  refine EV.iadd (pc := 676) dL_law_676 ?_
  refine EV.topi (y := nI (i + 4)) (nI_k i 4) ?_
  refine EV.sld (pc := 677) dL_law_677 (vp_in_nI (show i + 4 < L by omega) (by omega)) ?_
  refine EV.topi (y := xs (i + 4)) (by rw [nI_clamp (by omega)]) ?_
  refine EV.callVPi (pc := 678) (M' := M_X5_draw) dL_law_678 lkL_66 okV_X5_draw (q_draw hv1 hI _ _ _ _) (by decide) rfl rfl (Nat.le_of_ble_eq_true rfl) (by decide) hv1.h34 (fun h2 hd => ?_)
  obtain ⟨zm2, hd⟩ := hd
  refine EV.icmp_eq (pc := 681) (tgt := 1271) dL_law_681 (by decide) (fun _ => ?_) (fun q => absurd rfl q)
  refine EV.iinc (pc := 1271) dL_law_1271 (by decide) rfl (show nI i + Int32.ofInt 6 = nI (i + 6) from nI_k i 6) (by dsimp only [lst1, lk] <;> rfl) ?_
  refine EV.goto (pc := 1274) (tgt := 18) dL_law_1274 (by decide) ?_
  exact kx _ h2 ⟨(j_draw hI _ _ _ _), ⟨z1, hc.carry hd.fr⟩, ⟨zm2, hd.carry (fun _ _ => rfl)⟩⟩

set_option maxHeartbeats 4000000 in
set_option maxRecDepth 100000 in
theorem lc_number {G : eG} {ad : Nat → Nat} (b L : Nat) (xs : Nat → Int32) (s : St) (h : Nat → va_E) (i : Nat) (hB : BW G ad s h) (hi : i + 6 ≤ L) (hL : L ≤ 3072) (kx : ∀ (s : St) (h : Nat → va_E), BW G ad s h → EV G M_L_law cL_law (some (b, L, xs)) ad 54 (fun v _ => v = some (.int 1)) 18 [some (.ref b), some (.ref (ad 0)), some (.ref (ad 34)), some (.int (nI (i + 6)))] [] h) : EV G M_L_law cL_law (some (b, L, xs)) ad 54 (fun v _ => v = some (.int 1)) 686 [some (.ref b), some (.ref (ad 0)), some (.ref (ad 34)), some (.int (nI i))] [] h := by
  obtain ⟨hI, ⟨z, hw⟩, ⟨zm, hv⟩⟩ := hB
  refine EV.aload_n (pc := 686) dL_law_686 rfl ?_
  refine EV.aload_n (pc := 687) dL_law_687 rfl ?_
  refine EV.iload_n (pc := 688) dL_law_688 rfl ?_
  refine EV.iconst (pc := 689) (v := 1) dL_law_689 (by decide) ?_
  refine EV.iadd (pc := 690) dL_law_690 ?_
  refine EV.topi (y := nI (i + 1)) (nI_k i 1) ?_
  refine EV.sld (pc := 691) dL_law_691 (vp_in_nI (show i + 1 < L by omega) (by omega)) ?_
  refine EV.topi (y := xs (i + 1)) (by rw [nI_clamp (by omega)]) ?_
  refine EV.aload_n (pc := 692) dL_law_692 rfl ?_
  refine EV.iload_n (pc := 693) dL_law_693 rfl ?_
  refine EV.iconst (pc := 694) (v := 2) dL_law_694 (by decide) ?_
  refine EV.iadd (pc := 695) dL_law_695 ?_
  refine EV.topi (y := nI (i + 2)) (nI_k i 2) ?_
  refine EV.sld (pc := 696) dL_law_696 (vp_in_nI (show i + 2 < L by omega) (by omega)) ?_
  refine EV.topi (y := xs (i + 2)) (by rw [nI_clamp (by omega)]) ?_
  refine EV.callVPi (pc := 697) (M' := M_X4_number) dL_law_697 lkL_67 okV_X4_number (p_number hw hI _ _) (by decide) rfl rfl (Nat.le_of_ble_eq_true rfl) (by decide) hw.h0 (fun h1 hc => ?_)
  obtain ⟨z1, hc⟩ := hc
  have hv1 := hv.carry hc.fr
  refine EV.aload_n (pc := 700) dL_law_700 rfl ?_
  refine EV.aload_n (pc := 701) dL_law_701 rfl ?_
  refine EV.iload_n (pc := 702) dL_law_702 rfl ?_
  refine EV.iconst (pc := 703) (v := 1) dL_law_703 (by decide) ?_
  refine EV.iadd (pc := 704) dL_law_704 ?_
  refine EV.topi (y := nI (i + 1)) (nI_k i 1) ?_
  refine EV.sld (pc := 705) dL_law_705 (vp_in_nI (show i + 1 < L by omega) (by omega)) ?_
  refine EV.topi (y := xs (i + 1)) (by rw [nI_clamp (by omega)]) ?_
  refine EV.aload_n (pc := 706) dL_law_706 rfl ?_
  refine EV.iload_n (pc := 707) dL_law_707 rfl ?_
  refine EV.iconst (pc := 708) (v := 2) dL_law_708 (by decide) ?_
  refine EV.iadd (pc := 709) dL_law_709 ?_
  refine EV.topi (y := nI (i + 2)) (nI_k i 2) ?_
  refine EV.sld (pc := 710) dL_law_710 (vp_in_nI (show i + 2 < L by omega) (by omega)) ?_
  refine EV.topi (y := xs (i + 2)) (by rw [nI_clamp (by omega)]) ?_
  refine EV.callVPi (pc := 711) (M' := M_X5_number) dL_law_711 lkL_71 okV_X5_number (q_number hv1 hI _ _) (by decide) rfl rfl (Nat.le_of_ble_eq_true rfl) (by decide) hv1.h34 (fun h2 hd => ?_)
  obtain ⟨zm2, hd⟩ := hd
  refine EV.lcmp_eq (pc := 714) (tgt := 1271) dL_law_714 dL_law_715 (by decide) (fun _ => ?_) (fun q => absurd rfl q)
  refine EV.iinc (pc := 1271) dL_law_1271 (by decide) rfl (show nI i + Int32.ofInt 6 = nI (i + 6) from nI_k i 6) (by dsimp only [lst1, lk] <;> rfl) ?_
  refine EV.goto (pc := 1274) (tgt := 18) dL_law_1274 (by decide) ?_
  exact kx _ h2 ⟨hI, ⟨z1, hc.carry hd.fr⟩, ⟨zm2, hd.carry (fun _ _ => rfl)⟩⟩

set_option maxHeartbeats 4000000 in
set_option maxRecDepth 100000 in
theorem lc_peaks {G : eG} {ad : Nat → Nat} (b L : Nat) (xs : Nat → Int32) (s : St) (h : Nat → va_E) (i : Nat) (hB : BW G ad s h) (hi : i + 6 ≤ L) (hL : L ≤ 3072) (kx : ∀ (s : St) (h : Nat → va_E), BW G ad s h → EV G M_L_law cL_law (some (b, L, xs)) ad 54 (fun v _ => v = some (.int 1)) 18 [some (.ref b), some (.ref (ad 0)), some (.ref (ad 34)), some (.int (nI (i + 6)))] [] h) : EV G M_L_law cL_law (some (b, L, xs)) ad 54 (fun v _ => v = some (.int 1)) 720 [some (.ref b), some (.ref (ad 0)), some (.ref (ad 34)), some (.int (nI i))] [] h := by
  obtain ⟨hI, ⟨z, hw⟩, ⟨zm, hv⟩⟩ := hB
  refine EV.aload_n (pc := 720) dL_law_720 rfl ?_
  refine EV.aload_n (pc := 721) dL_law_721 rfl ?_
  refine EV.iload_n (pc := 722) dL_law_722 rfl ?_
  refine EV.iconst (pc := 723) (v := 1) dL_law_723 (by decide) ?_
  refine EV.iadd (pc := 724) dL_law_724 ?_
  refine EV.topi (y := nI (i + 1)) (nI_k i 1) ?_
  refine EV.sld (pc := 725) dL_law_725 (vp_in_nI (show i + 1 < L by omega) (by omega)) ?_
  refine EV.topi (y := xs (i + 1)) (by rw [nI_clamp (by omega)]) ?_
  refine EV.aload_n (pc := 726) dL_law_726 rfl ?_
  refine EV.iload_n (pc := 727) dL_law_727 rfl ?_
  refine EV.iconst (pc := 728) (v := 2) dL_law_728 (by decide) ?_
  refine EV.iadd (pc := 729) dL_law_729 ?_
  refine EV.topi (y := nI (i + 2)) (nI_k i 2) ?_
  refine EV.sld (pc := 730) dL_law_730 (vp_in_nI (show i + 2 < L by omega) (by omega)) ?_
  refine EV.topi (y := xs (i + 2)) (by rw [nI_clamp (by omega)]) ?_
  refine EV.i2l (pc := 731) dL_law_731 ?_
  refine EV.bipush (pc := 732) (v := 32) dL_law_732 (by decide) ?_
  refine EV.lshl (pc := 734) dL_law_734 ?_
  refine EV.aload_n (pc := 735) dL_law_735 rfl ?_
  refine EV.iload_n (pc := 736) dL_law_736 rfl ?_
  refine EV.iconst (pc := 737) (v := 3) dL_law_737 (by decide) ?_
  refine EV.iadd (pc := 738) dL_law_738 ?_
  refine EV.topi (y := nI (i + 3)) (nI_k i 3) ?_
  refine EV.sld (pc := 739) dL_law_739 (vp_in_nI (show i + 3 < L by omega) (by omega)) ?_
  refine EV.topi (y := xs (i + 3)) (by rw [nI_clamp (by omega)]) ?_
  refine EV.i2l (pc := 740) dL_law_740 ?_
  refine EV.ldc2 (pc := 741) dL_law_741 kcL_72 ?_
  refine EV.land (pc := 744) dL_law_744 ?_
  refine EV.lor (pc := 745) dL_law_745 ?_
  refine EV.callVPi (pc := 746) (M' := M_X4_peaks) dL_law_746 lkL_74 okV_X4_peaks (p_peaks hw hI _ _) (by decide) rfl rfl (Nat.le_of_ble_eq_true rfl) (by decide) hw.h0 (fun h1 hc => ?_)
  obtain ⟨z1, hc⟩ := hc
  have hv1 := hv.carry hc.fr
  refine EV.aload_n (pc := 749) dL_law_749 rfl ?_
  refine EV.aload_n (pc := 750) dL_law_750 rfl ?_
  refine EV.iload_n (pc := 751) dL_law_751 rfl ?_
  refine EV.iconst (pc := 752) (v := 1) dL_law_752 (by decide) ?_
  refine EV.iadd (pc := 753) dL_law_753 ?_
  refine EV.topi (y := nI (i + 1)) (nI_k i 1) ?_
  refine EV.sld (pc := 754) dL_law_754 (vp_in_nI (show i + 1 < L by omega) (by omega)) ?_
  refine EV.topi (y := xs (i + 1)) (by rw [nI_clamp (by omega)]) ?_
  refine EV.aload_n (pc := 755) dL_law_755 rfl ?_
  refine EV.iload_n (pc := 756) dL_law_756 rfl ?_
  refine EV.iconst (pc := 757) (v := 2) dL_law_757 (by decide) ?_
  refine EV.iadd (pc := 758) dL_law_758 ?_
  refine EV.topi (y := nI (i + 2)) (nI_k i 2) ?_
  refine EV.sld (pc := 759) dL_law_759 (vp_in_nI (show i + 2 < L by omega) (by omega)) ?_
  refine EV.topi (y := xs (i + 2)) (by rw [nI_clamp (by omega)]) ?_
  refine EV.i2l (pc := 760) dL_law_760 ?_
  refine EV.bipush (pc := 761) (v := 32) dL_law_761 (by decide) ?_
  refine EV.lshl (pc := 763) dL_law_763 ?_
  refine EV.aload_n (pc := 764) dL_law_764 rfl ?_
  refine EV.iload_n (pc := 765) dL_law_765 rfl ?_
  refine EV.iconst (pc := 766) (v := 3) dL_law_766 (by decide) ?_
  refine EV.iadd (pc := 767) dL_law_767 ?_
  refine EV.topi (y := nI (i + 3)) (nI_k i 3) ?_
  refine EV.sld (pc := 768) dL_law_768 (vp_in_nI (show i + 3 < L by omega) (by omega)) ?_
  refine EV.topi (y := xs (i + 3)) (by rw [nI_clamp (by omega)]) ?_
  refine EV.i2l (pc := 769) dL_law_769 ?_
  refine EV.ldc2 (pc := 770) dL_law_770 kcL_72 ?_
  refine EV.land (pc := 773) dL_law_773 ?_
  refine EV.lor (pc := 774) dL_law_774 ?_
  refine EV.callVPi (pc := 775) (M' := M_X5_peaks) dL_law_775 lkL_78 okV_X5_peaks (q_peaks hv1 hI _ _) (by decide) rfl rfl (Nat.le_of_ble_eq_true rfl) (by decide) hv1.h34 (fun h2 hd => ?_)
  obtain ⟨zm2, hd⟩ := hd
  refine EV.icmp_eq (pc := 778) (tgt := 1271) dL_law_778 (by decide) (fun _ => ?_) (fun q => absurd rfl q)
  refine EV.iinc (pc := 1271) dL_law_1271 (by decide) rfl (show nI i + Int32.ofInt 6 = nI (i + 6) from nI_k i 6) (by dsimp only [lst1, lk] <;> rfl) ?_
  refine EV.goto (pc := 1274) (tgt := 18) dL_law_1274 (by decide) ?_
  exact kx _ h2 ⟨hI, ⟨z1, hc.carry hd.fr⟩, ⟨zm2, hd.carry (fun _ _ => rfl)⟩⟩

set_option maxHeartbeats 4000000 in
set_option maxRecDepth 100000 in
theorem lc_peak {G : eG} {ad : Nat → Nat} (b L : Nat) (xs : Nat → Int32) (s : St) (h : Nat → va_E) (i : Nat) (hB : BW G ad s h) (hi : i + 6 ≤ L) (hL : L ≤ 3072) (kx : ∀ (s : St) (h : Nat → va_E), BW G ad s h → EV G M_L_law cL_law (some (b, L, xs)) ad 54 (fun v _ => v = some (.int 1)) 18 [some (.ref b), some (.ref (ad 0)), some (.ref (ad 34)), some (.int (nI (i + 6)))] [] h) : EV G M_L_law cL_law (some (b, L, xs)) ad 54 (fun v _ => v = some (.int 1)) 783 [some (.ref b), some (.ref (ad 0)), some (.ref (ad 34)), some (.int (nI i))] [] h := by
  obtain ⟨hI, ⟨z, hw⟩, ⟨zm, hv⟩⟩ := hB
  refine EV.aload_n (pc := 783) dL_law_783 rfl ?_
  refine EV.aload_n (pc := 784) dL_law_784 rfl ?_
  refine EV.iload_n (pc := 785) dL_law_785 rfl ?_
  refine EV.iconst (pc := 786) (v := 1) dL_law_786 (by decide) ?_
  refine EV.iadd (pc := 787) dL_law_787 ?_
  refine EV.topi (y := nI (i + 1)) (nI_k i 1) ?_
  refine EV.sld (pc := 788) dL_law_788 (vp_in_nI (show i + 1 < L by omega) (by omega)) ?_
  refine EV.topi (y := xs (i + 1)) (by rw [nI_clamp (by omega)]) ?_
  refine EV.aload_n (pc := 789) dL_law_789 rfl ?_
  refine EV.iload_n (pc := 790) dL_law_790 rfl ?_
  refine EV.iconst (pc := 791) (v := 2) dL_law_791 (by decide) ?_
  refine EV.iadd (pc := 792) dL_law_792 ?_
  refine EV.topi (y := nI (i + 2)) (nI_k i 2) ?_
  refine EV.sld (pc := 793) dL_law_793 (vp_in_nI (show i + 2 < L by omega) (by omega)) ?_
  refine EV.topi (y := xs (i + 2)) (by rw [nI_clamp (by omega)]) ?_
  refine EV.i2l (pc := 794) dL_law_794 ?_
  refine EV.bipush (pc := 795) (v := 32) dL_law_795 (by decide) ?_
  refine EV.lshl (pc := 797) dL_law_797 ?_
  refine EV.aload_n (pc := 798) dL_law_798 rfl ?_
  refine EV.iload_n (pc := 799) dL_law_799 rfl ?_
  refine EV.iconst (pc := 800) (v := 3) dL_law_800 (by decide) ?_
  refine EV.iadd (pc := 801) dL_law_801 ?_
  refine EV.topi (y := nI (i + 3)) (nI_k i 3) ?_
  refine EV.sld (pc := 802) dL_law_802 (vp_in_nI (show i + 3 < L by omega) (by omega)) ?_
  refine EV.topi (y := xs (i + 3)) (by rw [nI_clamp (by omega)]) ?_
  refine EV.i2l (pc := 803) dL_law_803 ?_
  refine EV.ldc2 (pc := 804) dL_law_804 kcL_72 ?_
  refine EV.land (pc := 807) dL_law_807 ?_
  refine EV.lor (pc := 808) dL_law_808 ?_
  refine EV.aload_n (pc := 809) dL_law_809 rfl ?_
  refine EV.iload_n (pc := 810) dL_law_810 rfl ?_
  refine EV.iconst (pc := 811) (v := 4) dL_law_811 (by decide) ?_
  refine EV.iadd (pc := 812) dL_law_812 ?_
  refine EV.topi (y := nI (i + 4)) (nI_k i 4) ?_
  refine EV.sld (pc := 813) dL_law_813 (vp_in_nI (show i + 4 < L by omega) (by omega)) ?_
  refine EV.topi (y := xs (i + 4)) (by rw [nI_clamp (by omega)]) ?_
  refine EV.callVPi (pc := 814) (M' := M_X4_peak) dL_law_814 lkL_79 okV_X4_peak (p_peak hw hI _ _ _) (by decide) rfl rfl (Nat.le_of_ble_eq_true rfl) (by decide) hw.h0 (fun h1 hc => ?_)
  obtain ⟨z1, hc⟩ := hc
  have hv1 := hv.carry hc.fr
  refine EV.aload_n (pc := 817) dL_law_817 rfl ?_
  refine EV.aload_n (pc := 818) dL_law_818 rfl ?_
  refine EV.iload_n (pc := 819) dL_law_819 rfl ?_
  refine EV.iconst (pc := 820) (v := 1) dL_law_820 (by decide) ?_
  refine EV.iadd (pc := 821) dL_law_821 ?_
  refine EV.topi (y := nI (i + 1)) (nI_k i 1) ?_
  refine EV.sld (pc := 822) dL_law_822 (vp_in_nI (show i + 1 < L by omega) (by omega)) ?_
  refine EV.topi (y := xs (i + 1)) (by rw [nI_clamp (by omega)]) ?_
  refine EV.aload_n (pc := 823) dL_law_823 rfl ?_
  refine EV.iload_n (pc := 824) dL_law_824 rfl ?_
  refine EV.iconst (pc := 825) (v := 2) dL_law_825 (by decide) ?_
  refine EV.iadd (pc := 826) dL_law_826 ?_
  refine EV.topi (y := nI (i + 2)) (nI_k i 2) ?_
  refine EV.sld (pc := 827) dL_law_827 (vp_in_nI (show i + 2 < L by omega) (by omega)) ?_
  refine EV.topi (y := xs (i + 2)) (by rw [nI_clamp (by omega)]) ?_
  refine EV.i2l (pc := 828) dL_law_828 ?_
  refine EV.bipush (pc := 829) (v := 32) dL_law_829 (by decide) ?_
  refine EV.lshl (pc := 831) dL_law_831 ?_
  refine EV.aload_n (pc := 832) dL_law_832 rfl ?_
  refine EV.iload_n (pc := 833) dL_law_833 rfl ?_
  refine EV.iconst (pc := 834) (v := 3) dL_law_834 (by decide) ?_
  refine EV.iadd (pc := 835) dL_law_835 ?_
  refine EV.topi (y := nI (i + 3)) (nI_k i 3) ?_
  refine EV.sld (pc := 836) dL_law_836 (vp_in_nI (show i + 3 < L by omega) (by omega)) ?_
  refine EV.topi (y := xs (i + 3)) (by rw [nI_clamp (by omega)]) ?_
  refine EV.i2l (pc := 837) dL_law_837 ?_
  refine EV.ldc2 (pc := 838) dL_law_838 kcL_72 ?_
  refine EV.land (pc := 841) dL_law_841 ?_
  refine EV.lor (pc := 842) dL_law_842 ?_
  refine EV.aload_n (pc := 843) dL_law_843 rfl ?_
  refine EV.iload_n (pc := 844) dL_law_844 rfl ?_
  refine EV.iconst (pc := 845) (v := 4) dL_law_845 (by decide) ?_
  refine EV.iadd (pc := 846) dL_law_846 ?_
  refine EV.topi (y := nI (i + 4)) (nI_k i 4) ?_
  refine EV.sld (pc := 847) dL_law_847 (vp_in_nI (show i + 4 < L by omega) (by omega)) ?_
  refine EV.topi (y := xs (i + 4)) (by rw [nI_clamp (by omega)]) ?_
  refine EV.callVPi (pc := 848) (M' := M_X5_peak) dL_law_848 lkL_83 okV_X5_peak (q_peak hv1 hI _ _ _) (by decide) rfl rfl (Nat.le_of_ble_eq_true rfl) (by decide) hv1.h34 (fun h2 hd => ?_)
  obtain ⟨zm2, hd⟩ := hd
  refine EV.icmp_eq (pc := 851) (tgt := 1271) dL_law_851 (by decide) (fun _ => ?_) (fun q => absurd rfl q)
  refine EV.iinc (pc := 1271) dL_law_1271 (by decide) rfl (show nI i + Int32.ofInt 6 = nI (i + 6) from nI_k i 6) (by dsimp only [lst1, lk] <;> rfl) ?_
  refine EV.goto (pc := 1274) (tgt := 18) dL_law_1274 (by decide) ?_
  exact kx _ h2 ⟨hI, ⟨z1, hc.carry hd.fr⟩, ⟨zm2, hd.carry (fun _ _ => rfl)⟩⟩

set_option maxHeartbeats 4000000 in
set_option maxRecDepth 100000 in
theorem lc_line {G : eG} {ad : Nat → Nat} (b L : Nat) (xs : Nat → Int32) (s : St) (h : Nat → va_E) (i : Nat) (hB : BW G ad s h) (hi : i + 6 ≤ L) (hL : L ≤ 3072) (kx : ∀ (s : St) (h : Nat → va_E), BW G ad s h → EV G M_L_law cL_law (some (b, L, xs)) ad 54 (fun v _ => v = some (.int 1)) 18 [some (.ref b), some (.ref (ad 0)), some (.ref (ad 34)), some (.int (nI (i + 6)))] [] h) : EV G M_L_law cL_law (some (b, L, xs)) ad 54 (fun v _ => v = some (.int 1)) 856 [some (.ref b), some (.ref (ad 0)), some (.ref (ad 34)), some (.int (nI i))] [] h := by
  obtain ⟨hI, ⟨z, hw⟩, ⟨zm, hv⟩⟩ := hB
  refine EV.aload_n (pc := 856) dL_law_856 rfl ?_
  refine EV.aload_n (pc := 857) dL_law_857 rfl ?_
  refine EV.iload_n (pc := 858) dL_law_858 rfl ?_
  refine EV.iconst (pc := 859) (v := 1) dL_law_859 (by decide) ?_
  refine EV.iadd (pc := 860) dL_law_860 ?_
  refine EV.topi (y := nI (i + 1)) (nI_k i 1) ?_
  refine EV.sld (pc := 861) dL_law_861 (vp_in_nI (show i + 1 < L by omega) (by omega)) ?_
  refine EV.topi (y := xs (i + 1)) (by rw [nI_clamp (by omega)]) ?_
  refine EV.callVPi (pc := 862) (M' := M_X4_line) dL_law_862 lkL_84 okV_X4_line (p_line hw hI _) (by decide) rfl rfl (Nat.le_of_ble_eq_true rfl) (by decide) hw.h0 (fun h1 hc => ?_)
  obtain ⟨z1, hc⟩ := hc
  have hv1 := hv.carry hc.fr
  refine EV.aload_n (pc := 865) dL_law_865 rfl ?_
  refine EV.aload_n (pc := 866) dL_law_866 rfl ?_
  refine EV.iload_n (pc := 867) dL_law_867 rfl ?_
  refine EV.iconst (pc := 868) (v := 1) dL_law_868 (by decide) ?_
  refine EV.iadd (pc := 869) dL_law_869 ?_
  refine EV.topi (y := nI (i + 1)) (nI_k i 1) ?_
  refine EV.sld (pc := 870) dL_law_870 (vp_in_nI (show i + 1 < L by omega) (by omega)) ?_
  refine EV.topi (y := xs (i + 1)) (by rw [nI_clamp (by omega)]) ?_
  refine EV.callVPi (pc := 871) (M' := M_X5_line) dL_law_871 lkL_87 okV_X5_line (q_line hv1 hI _) (by decide) rfl rfl (Nat.le_of_ble_eq_true rfl) (by decide) hv1.h34 (fun h2 hd => ?_)
  obtain ⟨zm2, hd⟩ := hd
  refine EV.icmp_eq (pc := 874) (tgt := 1271) dL_law_874 (by decide) (fun _ => ?_) (fun q => absurd rfl q)
  refine EV.iinc (pc := 1271) dL_law_1271 (by decide) rfl (show nI i + Int32.ofInt 6 = nI (i + 6) from nI_k i 6) (by dsimp only [lst1, lk] <;> rfl) ?_
  refine EV.goto (pc := 1274) (tgt := 18) dL_law_1274 (by decide) ?_
  exact kx _ h2 ⟨(j_line hI _), ⟨z1, hc.carry hd.fr⟩, ⟨zm2, hd.carry (fun _ _ => rfl)⟩⟩

set_option maxHeartbeats 4000000 in
set_option maxRecDepth 100000 in
theorem lc_clear {G : eG} {ad : Nat → Nat} (b L : Nat) (xs : Nat → Int32) (s : St) (h : Nat → va_E) (i : Nat) (hB : BW G ad s h) (hi : i + 6 ≤ L) (hL : L ≤ 3072) (kx : ∀ (s : St) (h : Nat → va_E), BW G ad s h → EV G M_L_law cL_law (some (b, L, xs)) ad 54 (fun v _ => v = some (.int 1)) 18 [some (.ref b), some (.ref (ad 0)), some (.ref (ad 34)), some (.int (nI (i + 6)))] [] h) : EV G M_L_law cL_law (some (b, L, xs)) ad 54 (fun v _ => v = some (.int 1)) 879 [some (.ref b), some (.ref (ad 0)), some (.ref (ad 34)), some (.int (nI i))] [] h := by
  obtain ⟨hI, ⟨z, hw⟩, ⟨zm, hv⟩⟩ := hB
  refine EV.aload_n (pc := 879) dL_law_879 rfl ?_
  refine EV.callVPi (pc := 880) (M' := M_X4_clear) dL_law_880 lkL_88 okV_X4_clear (p_clear hw hI) (by decide) rfl rfl (Nat.le_of_ble_eq_true rfl) (by decide) hw.h0 (fun h1 hc => ?_)
  obtain ⟨z1, hc⟩ := hc
  have hv1 := hv.carry hc.fr
  refine EV.aload_n (pc := 883) dL_law_883 rfl ?_
  refine EV.callVPi (pc := 884) (M' := M_X5_clear) dL_law_884 lkL_92 okV_X5_clear (q_clear hv1 hI) (by decide) rfl rfl (Nat.le_of_ble_eq_true rfl) (by decide) hv1.h34 (fun h2 hd => ?_)
  obtain ⟨zm2, hd⟩ := hd
  refine EV.icmp_eq (pc := 887) (tgt := 1271) dL_law_887 (by decide) (fun _ => ?_) (fun q => absurd rfl q)
  refine EV.iinc (pc := 1271) dL_law_1271 (by decide) rfl (show nI i + Int32.ofInt 6 = nI (i + 6) from nI_k i 6) (by dsimp only [lst1, lk] <;> rfl) ?_
  refine EV.goto (pc := 1274) (tgt := 18) dL_law_1274 (by decide) ?_
  exact kx _ h2 ⟨(j_clear hI), ⟨z1, hc.carry hd.fr⟩, ⟨zm2, hd.carry (fun _ _ => rfl)⟩⟩

set_option maxHeartbeats 4000000 in
set_option maxRecDepth 100000 in
theorem lc_match {G : eG} {ad : Nat → Nat} (b L : Nat) (xs : Nat → Int32) (s : St) (h : Nat → va_E) (i : Nat) (hB : BW G ad s h) (hi : i + 6 ≤ L) (hL : L ≤ 3072) (kx : ∀ (s : St) (h : Nat → va_E), BW G ad s h → EV G M_L_law cL_law (some (b, L, xs)) ad 54 (fun v _ => v = some (.int 1)) 18 [some (.ref b), some (.ref (ad 0)), some (.ref (ad 34)), some (.int (nI (i + 6)))] [] h) : EV G M_L_law cL_law (some (b, L, xs)) ad 54 (fun v _ => v = some (.int 1)) 892 [some (.ref b), some (.ref (ad 0)), some (.ref (ad 34)), some (.int (nI i))] [] h := by
  obtain ⟨hI, ⟨z, hw⟩, ⟨zm, hv⟩⟩ := hB
  refine EV.aload_n (pc := 892) dL_law_892 rfl ?_
  refine EV.aload_n (pc := 893) dL_law_893 rfl ?_
  refine EV.iload_n (pc := 894) dL_law_894 rfl ?_
  refine EV.iconst (pc := 895) (v := 1) dL_law_895 (by decide) ?_
  refine EV.iadd (pc := 896) dL_law_896 ?_
  refine EV.topi (y := nI (i + 1)) (nI_k i 1) ?_
  refine EV.sld (pc := 897) dL_law_897 (vp_in_nI (show i + 1 < L by omega) (by omega)) ?_
  refine EV.topi (y := xs (i + 1)) (by rw [nI_clamp (by omega)]) ?_
  refine EV.aload_n (pc := 898) dL_law_898 rfl ?_
  refine EV.iload_n (pc := 899) dL_law_899 rfl ?_
  refine EV.iconst (pc := 900) (v := 2) dL_law_900 (by decide) ?_
  refine EV.iadd (pc := 901) dL_law_901 ?_
  refine EV.topi (y := nI (i + 2)) (nI_k i 2) ?_
  refine EV.sld (pc := 902) dL_law_902 (vp_in_nI (show i + 2 < L by omega) (by omega)) ?_
  refine EV.topi (y := xs (i + 2)) (by rw [nI_clamp (by omega)]) ?_
  refine EV.i2l (pc := 903) dL_law_903 ?_
  refine EV.bipush (pc := 904) (v := 32) dL_law_904 (by decide) ?_
  refine EV.lshl (pc := 906) dL_law_906 ?_
  refine EV.aload_n (pc := 907) dL_law_907 rfl ?_
  refine EV.iload_n (pc := 908) dL_law_908 rfl ?_
  refine EV.iconst (pc := 909) (v := 3) dL_law_909 (by decide) ?_
  refine EV.iadd (pc := 910) dL_law_910 ?_
  refine EV.topi (y := nI (i + 3)) (nI_k i 3) ?_
  refine EV.sld (pc := 911) dL_law_911 (vp_in_nI (show i + 3 < L by omega) (by omega)) ?_
  refine EV.topi (y := xs (i + 3)) (by rw [nI_clamp (by omega)]) ?_
  refine EV.i2l (pc := 912) dL_law_912 ?_
  refine EV.ldc2 (pc := 913) dL_law_913 kcL_72 ?_
  refine EV.land (pc := 916) dL_law_916 ?_
  refine EV.lor (pc := 917) dL_law_917 ?_
  refine EV.aload_n (pc := 918) dL_law_918 rfl ?_
  refine EV.iload_n (pc := 919) dL_law_919 rfl ?_
  refine EV.iconst (pc := 920) (v := 4) dL_law_920 (by decide) ?_
  refine EV.iadd (pc := 921) dL_law_921 ?_
  refine EV.topi (y := nI (i + 4)) (nI_k i 4) ?_
  refine EV.sld (pc := 922) dL_law_922 (vp_in_nI (show i + 4 < L by omega) (by omega)) ?_
  refine EV.topi (y := xs (i + 4)) (by rw [nI_clamp (by omega)]) ?_
  refine EV.callVPi (pc := 923) (M' := M_X4_match) dL_law_923 lkL_93 okV_X4_match (p_match hw hI _ _ _) (by decide) rfl rfl (Nat.le_of_ble_eq_true rfl) (by decide) hw.h0 (fun h1 hc => ?_)
  obtain ⟨z1, hc⟩ := hc
  have hv1 := hv.carry hc.fr
  refine EV.aload_n (pc := 926) dL_law_926 rfl ?_
  refine EV.aload_n (pc := 927) dL_law_927 rfl ?_
  refine EV.iload_n (pc := 928) dL_law_928 rfl ?_
  refine EV.iconst (pc := 929) (v := 1) dL_law_929 (by decide) ?_
  refine EV.iadd (pc := 930) dL_law_930 ?_
  refine EV.topi (y := nI (i + 1)) (nI_k i 1) ?_
  refine EV.sld (pc := 931) dL_law_931 (vp_in_nI (show i + 1 < L by omega) (by omega)) ?_
  refine EV.topi (y := xs (i + 1)) (by rw [nI_clamp (by omega)]) ?_
  refine EV.aload_n (pc := 932) dL_law_932 rfl ?_
  refine EV.iload_n (pc := 933) dL_law_933 rfl ?_
  refine EV.iconst (pc := 934) (v := 2) dL_law_934 (by decide) ?_
  refine EV.iadd (pc := 935) dL_law_935 ?_
  refine EV.topi (y := nI (i + 2)) (nI_k i 2) ?_
  refine EV.sld (pc := 936) dL_law_936 (vp_in_nI (show i + 2 < L by omega) (by omega)) ?_
  refine EV.topi (y := xs (i + 2)) (by rw [nI_clamp (by omega)]) ?_
  refine EV.i2l (pc := 937) dL_law_937 ?_
  refine EV.bipush (pc := 938) (v := 32) dL_law_938 (by decide) ?_
  refine EV.lshl (pc := 940) dL_law_940 ?_
  refine EV.aload_n (pc := 941) dL_law_941 rfl ?_
  refine EV.iload_n (pc := 942) dL_law_942 rfl ?_
  refine EV.iconst (pc := 943) (v := 3) dL_law_943 (by decide) ?_
  refine EV.iadd (pc := 944) dL_law_944 ?_
  refine EV.topi (y := nI (i + 3)) (nI_k i 3) ?_
  refine EV.sld (pc := 945) dL_law_945 (vp_in_nI (show i + 3 < L by omega) (by omega)) ?_
  refine EV.topi (y := xs (i + 3)) (by rw [nI_clamp (by omega)]) ?_
  refine EV.i2l (pc := 946) dL_law_946 ?_
  refine EV.ldc2 (pc := 947) dL_law_947 kcL_72 ?_
  refine EV.land (pc := 950) dL_law_950 ?_
  refine EV.lor (pc := 951) dL_law_951 ?_
  refine EV.aload_n (pc := 952) dL_law_952 rfl ?_
  refine EV.iload_n (pc := 953) dL_law_953 rfl ?_
  refine EV.iconst (pc := 954) (v := 4) dL_law_954 (by decide) ?_
  refine EV.iadd (pc := 955) dL_law_955 ?_
  refine EV.topi (y := nI (i + 4)) (nI_k i 4) ?_
  refine EV.sld (pc := 956) dL_law_956 (vp_in_nI (show i + 4 < L by omega) (by omega)) ?_
  refine EV.topi (y := xs (i + 4)) (by rw [nI_clamp (by omega)]) ?_
  refine EV.callVPi (pc := 957) (M' := M_X5_match) dL_law_957 lkL_96 okV_X5_match (q_match hv1 hI _ _ _) (by decide) rfl rfl (Nat.le_of_ble_eq_true rfl) (by decide) hv1.h34 (fun h2 hd => ?_)
  obtain ⟨zm2, hd⟩ := hd
  refine EV.icmp_eq (pc := 960) (tgt := 1271) dL_law_960 (by decide) (fun _ => ?_) (fun q => absurd rfl q)
  refine EV.iinc (pc := 1271) dL_law_1271 (by decide) rfl (show nI i + Int32.ofInt 6 = nI (i + 6) from nI_k i 6) (by dsimp only [lst1, lk] <;> rfl) ?_
  refine EV.goto (pc := 1274) (tgt := 18) dL_law_1274 (by decide) ?_
  exact kx _ h2 ⟨(j_match hI _ _ _), ⟨z1, hc.carry hd.fr⟩, ⟨zm2, hd.carry (fun _ _ => rfl)⟩⟩

set_option maxHeartbeats 4000000 in
set_option maxRecDepth 100000 in
theorem lc_law {G : eG} {ad : Nat → Nat} (b L : Nat) (xs : Nat → Int32) (s : St) (h : Nat → va_E) (i : Nat) (hB : BW G ad s h) (hi : i + 6 ≤ L) (hL : L ≤ 3072) (kx : ∀ (s : St) (h : Nat → va_E), BW G ad s h → EV G M_L_law cL_law (some (b, L, xs)) ad 54 (fun v _ => v = some (.int 1)) 18 [some (.ref b), some (.ref (ad 0)), some (.ref (ad 34)), some (.int (nI (i + 6)))] [] h) : EV G M_L_law cL_law (some (b, L, xs)) ad 54 (fun v _ => v = some (.int 1)) 965 [some (.ref b), some (.ref (ad 0)), some (.ref (ad 34)), some (.int (nI i))] [] h := by
  obtain ⟨hI, ⟨z, hw⟩, ⟨zm, hv⟩⟩ := hB
  refine EV.aload_n (pc := 965) dL_law_965 rfl ?_
  refine EV.aload_n (pc := 966) dL_law_966 rfl ?_
  refine EV.iload_n (pc := 967) dL_law_967 rfl ?_
  refine EV.iconst (pc := 968) (v := 1) dL_law_968 (by decide) ?_
  refine EV.iadd (pc := 969) dL_law_969 ?_
  refine EV.topi (y := nI (i + 1)) (nI_k i 1) ?_
  refine EV.sld (pc := 970) dL_law_970 (vp_in_nI (show i + 1 < L by omega) (by omega)) ?_
  refine EV.topi (y := xs (i + 1)) (by rw [nI_clamp (by omega)]) ?_
  refine EV.aload_n (pc := 971) dL_law_971 rfl ?_
  refine EV.iload_n (pc := 972) dL_law_972 rfl ?_
  refine EV.iconst (pc := 973) (v := 2) dL_law_973 (by decide) ?_
  refine EV.iadd (pc := 974) dL_law_974 ?_
  refine EV.topi (y := nI (i + 2)) (nI_k i 2) ?_
  refine EV.sld (pc := 975) dL_law_975 (vp_in_nI (show i + 2 < L by omega) (by omega)) ?_
  refine EV.topi (y := xs (i + 2)) (by rw [nI_clamp (by omega)]) ?_
  refine EV.aload_n (pc := 976) dL_law_976 rfl ?_
  refine EV.iload_n (pc := 977) dL_law_977 rfl ?_
  refine EV.iconst (pc := 978) (v := 3) dL_law_978 (by decide) ?_
  refine EV.iadd (pc := 979) dL_law_979 ?_
  refine EV.topi (y := nI (i + 3)) (nI_k i 3) ?_
  refine EV.sld (pc := 980) dL_law_980 (vp_in_nI (show i + 3 < L by omega) (by omega)) ?_
  refine EV.topi (y := xs (i + 3)) (by rw [nI_clamp (by omega)]) ?_
  refine EV.callVPi (pc := 981) (M' := M_X4_law) dL_law_981 lkL_97 okV_X4_law (p_law hw hI _ _ _) (by decide) rfl rfl (Nat.le_of_ble_eq_true rfl) (by decide) hw.h0 (fun h1 hc => ?_)
  obtain ⟨z1, hc⟩ := hc
  have hv1 := hv.carry hc.fr
  refine EV.aload_n (pc := 984) dL_law_984 rfl ?_
  refine EV.aload_n (pc := 985) dL_law_985 rfl ?_
  refine EV.iload_n (pc := 986) dL_law_986 rfl ?_
  refine EV.iconst (pc := 987) (v := 1) dL_law_987 (by decide) ?_
  refine EV.iadd (pc := 988) dL_law_988 ?_
  refine EV.topi (y := nI (i + 1)) (nI_k i 1) ?_
  refine EV.sld (pc := 989) dL_law_989 (vp_in_nI (show i + 1 < L by omega) (by omega)) ?_
  refine EV.topi (y := xs (i + 1)) (by rw [nI_clamp (by omega)]) ?_
  refine EV.aload_n (pc := 990) dL_law_990 rfl ?_
  refine EV.iload_n (pc := 991) dL_law_991 rfl ?_
  refine EV.iconst (pc := 992) (v := 2) dL_law_992 (by decide) ?_
  refine EV.iadd (pc := 993) dL_law_993 ?_
  refine EV.topi (y := nI (i + 2)) (nI_k i 2) ?_
  refine EV.sld (pc := 994) dL_law_994 (vp_in_nI (show i + 2 < L by omega) (by omega)) ?_
  refine EV.topi (y := xs (i + 2)) (by rw [nI_clamp (by omega)]) ?_
  refine EV.aload_n (pc := 995) dL_law_995 rfl ?_
  refine EV.iload_n (pc := 996) dL_law_996 rfl ?_
  refine EV.iconst (pc := 997) (v := 3) dL_law_997 (by decide) ?_
  refine EV.iadd (pc := 998) dL_law_998 ?_
  refine EV.topi (y := nI (i + 3)) (nI_k i 3) ?_
  refine EV.sld (pc := 999) dL_law_999 (vp_in_nI (show i + 3 < L by omega) (by omega)) ?_
  refine EV.topi (y := xs (i + 3)) (by rw [nI_clamp (by omega)]) ?_
  refine EV.callVPi (pc := 1000) (M' := M_X5_law) dL_law_1000 lkL_100 okV_X5_law (q_law hv1 hI _ _ _) (by decide) rfl rfl (Nat.le_of_ble_eq_true rfl) (by decide) hv1.h34 (fun h2 hd => ?_)
  obtain ⟨zm2, hd⟩ := hd
  refine EV.icmp_eq (pc := 1003) (tgt := 1271) dL_law_1003 (by decide) (fun _ => ?_) (fun q => absurd rfl q)
  refine EV.iinc (pc := 1271) dL_law_1271 (by decide) rfl (show nI i + Int32.ofInt 6 = nI (i + 6) from nI_k i 6) (by dsimp only [lst1, lk] <;> rfl) ?_
  refine EV.goto (pc := 1274) (tgt := 18) dL_law_1274 (by decide) ?_
  exact kx _ h2 ⟨(j_law hI _ _ _), ⟨z1, hc.carry hd.fr⟩, ⟨zm2, hd.carry (fun _ _ => rfl)⟩⟩

set_option maxHeartbeats 4000000 in
set_option maxRecDepth 100000 in
theorem lc_wave {G : eG} {ad : Nat → Nat} (b L : Nat) (xs : Nat → Int32) (s : St) (h : Nat → va_E) (i : Nat) (hB : BW G ad s h) (hi : i + 6 ≤ L) (hL : L ≤ 3072) (kx : ∀ (s : St) (h : Nat → va_E), BW G ad s h → EV G M_L_law cL_law (some (b, L, xs)) ad 54 (fun v _ => v = some (.int 1)) 18 [some (.ref b), some (.ref (ad 0)), some (.ref (ad 34)), some (.int (nI (i + 6)))] [] h) : EV G M_L_law cL_law (some (b, L, xs)) ad 54 (fun v _ => v = some (.int 1)) 1008 [some (.ref b), some (.ref (ad 0)), some (.ref (ad 34)), some (.int (nI i))] [] h := by
  obtain ⟨hI, ⟨z, hw⟩, ⟨zm, hv⟩⟩ := hB
  refine EV.aload_n (pc := 1008) dL_law_1008 rfl ?_
  refine EV.aload_n (pc := 1009) dL_law_1009 rfl ?_
  refine EV.iload_n (pc := 1010) dL_law_1010 rfl ?_
  refine EV.iconst (pc := 1011) (v := 1) dL_law_1011 (by decide) ?_
  refine EV.iadd (pc := 1012) dL_law_1012 ?_
  refine EV.topi (y := nI (i + 1)) (nI_k i 1) ?_
  refine EV.sld (pc := 1013) dL_law_1013 (vp_in_nI (show i + 1 < L by omega) (by omega)) ?_
  refine EV.topi (y := xs (i + 1)) (by rw [nI_clamp (by omega)]) ?_
  refine EV.aload_n (pc := 1014) dL_law_1014 rfl ?_
  refine EV.iload_n (pc := 1015) dL_law_1015 rfl ?_
  refine EV.iconst (pc := 1016) (v := 2) dL_law_1016 (by decide) ?_
  refine EV.iadd (pc := 1017) dL_law_1017 ?_
  refine EV.topi (y := nI (i + 2)) (nI_k i 2) ?_
  refine EV.sld (pc := 1018) dL_law_1018 (vp_in_nI (show i + 2 < L by omega) (by omega)) ?_
  refine EV.topi (y := xs (i + 2)) (by rw [nI_clamp (by omega)]) ?_
  refine EV.callVPi (pc := 1019) (M' := M_X4_wave) dL_law_1019 lkL_101 okV_X4_wave (p_wave hw hI _ _) (by decide) rfl rfl (Nat.le_of_ble_eq_true rfl) (by decide) hw.h0 (fun h1 hc => ?_)
  obtain ⟨z1, hc⟩ := hc
  have hv1 := hv.carry hc.fr
  refine EV.aload_n (pc := 1022) dL_law_1022 rfl ?_
  refine EV.aload_n (pc := 1023) dL_law_1023 rfl ?_
  refine EV.iload_n (pc := 1024) dL_law_1024 rfl ?_
  refine EV.iconst (pc := 1025) (v := 1) dL_law_1025 (by decide) ?_
  refine EV.iadd (pc := 1026) dL_law_1026 ?_
  refine EV.topi (y := nI (i + 1)) (nI_k i 1) ?_
  refine EV.sld (pc := 1027) dL_law_1027 (vp_in_nI (show i + 1 < L by omega) (by omega)) ?_
  refine EV.topi (y := xs (i + 1)) (by rw [nI_clamp (by omega)]) ?_
  refine EV.aload_n (pc := 1028) dL_law_1028 rfl ?_
  refine EV.iload_n (pc := 1029) dL_law_1029 rfl ?_
  refine EV.iconst (pc := 1030) (v := 2) dL_law_1030 (by decide) ?_
  refine EV.iadd (pc := 1031) dL_law_1031 ?_
  refine EV.topi (y := nI (i + 2)) (nI_k i 2) ?_
  refine EV.sld (pc := 1032) dL_law_1032 (vp_in_nI (show i + 2 < L by omega) (by omega)) ?_
  refine EV.topi (y := xs (i + 2)) (by rw [nI_clamp (by omega)]) ?_
  refine EV.callVPi (pc := 1033) (M' := M_X5_wave) dL_law_1033 lkL_104 okV_X5_wave (q_wave hv1 hI _ _) (by decide) rfl rfl (Nat.le_of_ble_eq_true rfl) (by decide) hv1.h34 (fun h2 hd => ?_)
  obtain ⟨zm2, hd⟩ := hd
  refine EV.icmp_eq (pc := 1036) (tgt := 1271) dL_law_1036 (by decide) (fun _ => ?_) (fun q => absurd rfl q)
  refine EV.iinc (pc := 1271) dL_law_1271 (by decide) rfl (show nI i + Int32.ofInt 6 = nI (i + 6) from nI_k i 6) (by dsimp only [lst1, lk] <;> rfl) ?_
  refine EV.goto (pc := 1274) (tgt := 18) dL_law_1274 (by decide) ?_
  exact kx _ h2 ⟨hI, ⟨z1, hc.carry hd.fr⟩, ⟨zm2, hd.carry (fun _ _ => rfl)⟩⟩

set_option maxHeartbeats 4000000 in
set_option maxRecDepth 100000 in
theorem lc_join {G : eG} {ad : Nat → Nat} (b L : Nat) (xs : Nat → Int32) (s : St) (h : Nat → va_E) (i : Nat) (hB : BW G ad s h) (hi : i + 6 ≤ L) (hL : L ≤ 3072) (kx : ∀ (s : St) (h : Nat → va_E), BW G ad s h → EV G M_L_law cL_law (some (b, L, xs)) ad 54 (fun v _ => v = some (.int 1)) 18 [some (.ref b), some (.ref (ad 0)), some (.ref (ad 34)), some (.int (nI (i + 6)))] [] h) : EV G M_L_law cL_law (some (b, L, xs)) ad 54 (fun v _ => v = some (.int 1)) 1041 [some (.ref b), some (.ref (ad 0)), some (.ref (ad 34)), some (.int (nI i))] [] h := by
  obtain ⟨hI, ⟨z, hw⟩, ⟨zm, hv⟩⟩ := hB
  refine EV.aload_n (pc := 1041) dL_law_1041 rfl ?_
  refine EV.aload_n (pc := 1042) dL_law_1042 rfl ?_
  refine EV.iload_n (pc := 1043) dL_law_1043 rfl ?_
  refine EV.iconst (pc := 1044) (v := 1) dL_law_1044 (by decide) ?_
  refine EV.iadd (pc := 1045) dL_law_1045 ?_
  refine EV.topi (y := nI (i + 1)) (nI_k i 1) ?_
  refine EV.sld (pc := 1046) dL_law_1046 (vp_in_nI (show i + 1 < L by omega) (by omega)) ?_
  refine EV.topi (y := xs (i + 1)) (by rw [nI_clamp (by omega)]) ?_
  refine EV.aload_n (pc := 1047) dL_law_1047 rfl ?_
  refine EV.iload_n (pc := 1048) dL_law_1048 rfl ?_
  refine EV.iconst (pc := 1049) (v := 2) dL_law_1049 (by decide) ?_
  refine EV.iadd (pc := 1050) dL_law_1050 ?_
  refine EV.topi (y := nI (i + 2)) (nI_k i 2) ?_
  refine EV.sld (pc := 1051) dL_law_1051 (vp_in_nI (show i + 2 < L by omega) (by omega)) ?_
  refine EV.topi (y := xs (i + 2)) (by rw [nI_clamp (by omega)]) ?_
  refine EV.aload_n (pc := 1052) dL_law_1052 rfl ?_
  refine EV.iload_n (pc := 1053) dL_law_1053 rfl ?_
  refine EV.iconst (pc := 1054) (v := 3) dL_law_1054 (by decide) ?_
  refine EV.iadd (pc := 1055) dL_law_1055 ?_
  refine EV.topi (y := nI (i + 3)) (nI_k i 3) ?_
  refine EV.sld (pc := 1056) dL_law_1056 (vp_in_nI (show i + 3 < L by omega) (by omega)) ?_
  refine EV.topi (y := xs (i + 3)) (by rw [nI_clamp (by omega)]) ?_
  refine EV.callVPi (pc := 1057) (M' := M_X4_join) dL_law_1057 lkL_105 okV_X4_join (p_join hw hI _ _ _) (by decide) rfl rfl (Nat.le_of_ble_eq_true rfl) (by decide) hw.h0 (fun h1 hc => ?_)
  obtain ⟨z1, hc⟩ := hc
  have hv1 := hv.carry hc.fr
  refine EV.aload_n (pc := 1060) dL_law_1060 rfl ?_
  refine EV.aload_n (pc := 1061) dL_law_1061 rfl ?_
  refine EV.iload_n (pc := 1062) dL_law_1062 rfl ?_
  refine EV.iconst (pc := 1063) (v := 1) dL_law_1063 (by decide) ?_
  refine EV.iadd (pc := 1064) dL_law_1064 ?_
  refine EV.topi (y := nI (i + 1)) (nI_k i 1) ?_
  refine EV.sld (pc := 1065) dL_law_1065 (vp_in_nI (show i + 1 < L by omega) (by omega)) ?_
  refine EV.topi (y := xs (i + 1)) (by rw [nI_clamp (by omega)]) ?_
  refine EV.aload_n (pc := 1066) dL_law_1066 rfl ?_
  refine EV.iload_n (pc := 1067) dL_law_1067 rfl ?_
  refine EV.iconst (pc := 1068) (v := 2) dL_law_1068 (by decide) ?_
  refine EV.iadd (pc := 1069) dL_law_1069 ?_
  refine EV.topi (y := nI (i + 2)) (nI_k i 2) ?_
  refine EV.sld (pc := 1070) dL_law_1070 (vp_in_nI (show i + 2 < L by omega) (by omega)) ?_
  refine EV.topi (y := xs (i + 2)) (by rw [nI_clamp (by omega)]) ?_
  refine EV.aload_n (pc := 1071) dL_law_1071 rfl ?_
  refine EV.iload_n (pc := 1072) dL_law_1072 rfl ?_
  refine EV.iconst (pc := 1073) (v := 3) dL_law_1073 (by decide) ?_
  refine EV.iadd (pc := 1074) dL_law_1074 ?_
  refine EV.topi (y := nI (i + 3)) (nI_k i 3) ?_
  refine EV.sld (pc := 1075) dL_law_1075 (vp_in_nI (show i + 3 < L by omega) (by omega)) ?_
  refine EV.topi (y := xs (i + 3)) (by rw [nI_clamp (by omega)]) ?_
  refine EV.callVPi (pc := 1076) (M' := M_X5_join) dL_law_1076 lkL_108 okV_X5_join (q_join hv1 hI _ _ _) (by decide) rfl rfl (Nat.le_of_ble_eq_true rfl) (by decide) hv1.h34 (fun h2 hd => ?_)
  obtain ⟨zm2, hd⟩ := hd
  refine EV.icmp_eq (pc := 1079) (tgt := 1271) dL_law_1079 (by decide) (fun _ => ?_) (fun q => absurd rfl q)
  refine EV.iinc (pc := 1271) dL_law_1271 (by decide) rfl (show nI i + Int32.ofInt 6 = nI (i + 6) from nI_k i 6) (by dsimp only [lst1, lk] <;> rfl) ?_
  refine EV.goto (pc := 1274) (tgt := 18) dL_law_1274 (by decide) ?_
  exact kx _ h2 ⟨(j_join hI _ _ _), ⟨z1, hc.carry hd.fr⟩, ⟨zm2, hd.carry (fun _ _ => rfl)⟩⟩

set_option maxHeartbeats 4000000 in
set_option maxRecDepth 100000 in
theorem lc_joined {G : eG} {ad : Nat → Nat} (b L : Nat) (xs : Nat → Int32) (s : St) (h : Nat → va_E) (i : Nat) (hB : BW G ad s h) (hi : i + 6 ≤ L) (hL : L ≤ 3072) (kx : ∀ (s : St) (h : Nat → va_E), BW G ad s h → EV G M_L_law cL_law (some (b, L, xs)) ad 54 (fun v _ => v = some (.int 1)) 18 [some (.ref b), some (.ref (ad 0)), some (.ref (ad 34)), some (.int (nI (i + 6)))] [] h) : EV G M_L_law cL_law (some (b, L, xs)) ad 54 (fun v _ => v = some (.int 1)) 1084 [some (.ref b), some (.ref (ad 0)), some (.ref (ad 34)), some (.int (nI i))] [] h := by
  obtain ⟨hI, ⟨z, hw⟩, ⟨zm, hv⟩⟩ := hB
  refine EV.aload_n (pc := 1084) dL_law_1084 rfl ?_
  refine EV.aload_n (pc := 1085) dL_law_1085 rfl ?_
  refine EV.iload_n (pc := 1086) dL_law_1086 rfl ?_
  refine EV.iconst (pc := 1087) (v := 1) dL_law_1087 (by decide) ?_
  refine EV.iadd (pc := 1088) dL_law_1088 ?_
  refine EV.topi (y := nI (i + 1)) (nI_k i 1) ?_
  refine EV.sld (pc := 1089) dL_law_1089 (vp_in_nI (show i + 1 < L by omega) (by omega)) ?_
  refine EV.topi (y := xs (i + 1)) (by rw [nI_clamp (by omega)]) ?_
  refine EV.callVPi (pc := 1090) (M' := M_X4_joined) dL_law_1090 lkL_109 okV_X4_joined (p_joined hw hI _) (by decide) rfl rfl (Nat.le_of_ble_eq_true rfl) (by decide) hw.h0 (fun h1 hc => ?_)
  obtain ⟨z1, hc⟩ := hc
  have hv1 := hv.carry hc.fr
  refine EV.aload_n (pc := 1093) dL_law_1093 rfl ?_
  refine EV.aload_n (pc := 1094) dL_law_1094 rfl ?_
  refine EV.iload_n (pc := 1095) dL_law_1095 rfl ?_
  refine EV.iconst (pc := 1096) (v := 1) dL_law_1096 (by decide) ?_
  refine EV.iadd (pc := 1097) dL_law_1097 ?_
  refine EV.topi (y := nI (i + 1)) (nI_k i 1) ?_
  refine EV.sld (pc := 1098) dL_law_1098 (vp_in_nI (show i + 1 < L by omega) (by omega)) ?_
  refine EV.topi (y := xs (i + 1)) (by rw [nI_clamp (by omega)]) ?_
  refine EV.callVPi (pc := 1099) (M' := M_X5_joined) dL_law_1099 lkL_113 okV_X5_joined (q_joined hv1 hI _) (by decide) rfl rfl (Nat.le_of_ble_eq_true rfl) (by decide) hv1.h34 (fun h2 hd => ?_)
  obtain ⟨zm2, hd⟩ := hd
  refine EV.lcmp_eq (pc := 1102) (tgt := 1271) dL_law_1102 dL_law_1103 (by decide) (fun _ => ?_) (fun q => absurd rfl q)
  refine EV.iinc (pc := 1271) dL_law_1271 (by decide) rfl (show nI i + Int32.ofInt 6 = nI (i + 6) from nI_k i 6) (by dsimp only [lst1, lk] <;> rfl) ?_
  refine EV.goto (pc := 1274) (tgt := 18) dL_law_1274 (by decide) ?_
  exact kx _ h2 ⟨hI, ⟨z1, hc.carry hd.fr⟩, ⟨zm2, hd.carry (fun _ _ => rfl)⟩⟩

set_option maxHeartbeats 4000000 in
set_option maxRecDepth 100000 in
theorem lc_shift {G : eG} {ad : Nat → Nat} (b L : Nat) (xs : Nat → Int32) (s : St) (h : Nat → va_E) (i : Nat) (hB : BW G ad s h) (hi : i + 6 ≤ L) (hL : L ≤ 3072) (kx : ∀ (s : St) (h : Nat → va_E), BW G ad s h → EV G M_L_law cL_law (some (b, L, xs)) ad 54 (fun v _ => v = some (.int 1)) 18 [some (.ref b), some (.ref (ad 0)), some (.ref (ad 34)), some (.int (nI (i + 6)))] [] h) : EV G M_L_law cL_law (some (b, L, xs)) ad 54 (fun v _ => v = some (.int 1)) 1108 [some (.ref b), some (.ref (ad 0)), some (.ref (ad 34)), some (.int (nI i))] [] h := by
  obtain ⟨hI, ⟨z, hw⟩, ⟨zm, hv⟩⟩ := hB
  refine EV.aload_n (pc := 1108) dL_law_1108 rfl ?_
  refine EV.aload_n (pc := 1109) dL_law_1109 rfl ?_
  refine EV.iload_n (pc := 1110) dL_law_1110 rfl ?_
  refine EV.iconst (pc := 1111) (v := 1) dL_law_1111 (by decide) ?_
  refine EV.iadd (pc := 1112) dL_law_1112 ?_
  refine EV.topi (y := nI (i + 1)) (nI_k i 1) ?_
  refine EV.sld (pc := 1113) dL_law_1113 (vp_in_nI (show i + 1 < L by omega) (by omega)) ?_
  refine EV.topi (y := xs (i + 1)) (by rw [nI_clamp (by omega)]) ?_
  refine EV.aload_n (pc := 1114) dL_law_1114 rfl ?_
  refine EV.iload_n (pc := 1115) dL_law_1115 rfl ?_
  refine EV.iconst (pc := 1116) (v := 2) dL_law_1116 (by decide) ?_
  refine EV.iadd (pc := 1117) dL_law_1117 ?_
  refine EV.topi (y := nI (i + 2)) (nI_k i 2) ?_
  refine EV.sld (pc := 1118) dL_law_1118 (vp_in_nI (show i + 2 < L by omega) (by omega)) ?_
  refine EV.topi (y := xs (i + 2)) (by rw [nI_clamp (by omega)]) ?_
  refine EV.aload_n (pc := 1119) dL_law_1119 rfl ?_
  refine EV.iload_n (pc := 1120) dL_law_1120 rfl ?_
  refine EV.iconst (pc := 1121) (v := 3) dL_law_1121 (by decide) ?_
  refine EV.iadd (pc := 1122) dL_law_1122 ?_
  refine EV.topi (y := nI (i + 3)) (nI_k i 3) ?_
  refine EV.sld (pc := 1123) dL_law_1123 (vp_in_nI (show i + 3 < L by omega) (by omega)) ?_
  refine EV.topi (y := xs (i + 3)) (by rw [nI_clamp (by omega)]) ?_
  refine EV.callVPi (pc := 1124) (M' := M_X4_shift) dL_law_1124 lkL_114 okV_X4_shift (p_shift hw hI _ _ _) (by decide) rfl rfl (Nat.le_of_ble_eq_true rfl) (by decide) hw.h0 (fun h1 hc => ?_)
  obtain ⟨z1, hc⟩ := hc
  have hv1 := hv.carry hc.fr
  refine EV.aload_n (pc := 1127) dL_law_1127 rfl ?_
  refine EV.aload_n (pc := 1128) dL_law_1128 rfl ?_
  refine EV.iload_n (pc := 1129) dL_law_1129 rfl ?_
  refine EV.iconst (pc := 1130) (v := 1) dL_law_1130 (by decide) ?_
  refine EV.iadd (pc := 1131) dL_law_1131 ?_
  refine EV.topi (y := nI (i + 1)) (nI_k i 1) ?_
  refine EV.sld (pc := 1132) dL_law_1132 (vp_in_nI (show i + 1 < L by omega) (by omega)) ?_
  refine EV.topi (y := xs (i + 1)) (by rw [nI_clamp (by omega)]) ?_
  refine EV.aload_n (pc := 1133) dL_law_1133 rfl ?_
  refine EV.iload_n (pc := 1134) dL_law_1134 rfl ?_
  refine EV.iconst (pc := 1135) (v := 2) dL_law_1135 (by decide) ?_
  refine EV.iadd (pc := 1136) dL_law_1136 ?_
  refine EV.topi (y := nI (i + 2)) (nI_k i 2) ?_
  refine EV.sld (pc := 1137) dL_law_1137 (vp_in_nI (show i + 2 < L by omega) (by omega)) ?_
  refine EV.topi (y := xs (i + 2)) (by rw [nI_clamp (by omega)]) ?_
  refine EV.aload_n (pc := 1138) dL_law_1138 rfl ?_
  refine EV.iload_n (pc := 1139) dL_law_1139 rfl ?_
  refine EV.iconst (pc := 1140) (v := 3) dL_law_1140 (by decide) ?_
  refine EV.iadd (pc := 1141) dL_law_1141 ?_
  refine EV.topi (y := nI (i + 3)) (nI_k i 3) ?_
  refine EV.sld (pc := 1142) dL_law_1142 (vp_in_nI (show i + 3 < L by omega) (by omega)) ?_
  refine EV.topi (y := xs (i + 3)) (by rw [nI_clamp (by omega)]) ?_
  refine EV.callVPi (pc := 1143) (M' := M_X5_shift) dL_law_1143 lkL_118 okV_X5_shift (q_shift hv1 hI _ _ _) (by decide) rfl rfl (Nat.le_of_ble_eq_true rfl) (by decide) hv1.h34 (fun h2 hd => ?_)
  obtain ⟨zm2, hd⟩ := hd
  refine EV.lcmp_eq (pc := 1146) (tgt := 1271) dL_law_1146 dL_law_1147 (by decide) (fun _ => ?_) (fun q => absurd rfl q)
  refine EV.iinc (pc := 1271) dL_law_1271 (by decide) rfl (show nI i + Int32.ofInt 6 = nI (i + 6) from nI_k i 6) (by dsimp only [lst1, lk] <;> rfl) ?_
  refine EV.goto (pc := 1274) (tgt := 18) dL_law_1274 (by decide) ?_
  exact kx _ h2 ⟨hI, ⟨z1, hc.carry hd.fr⟩, ⟨zm2, hd.carry (fun _ _ => rfl)⟩⟩

set_option maxHeartbeats 4000000 in
set_option maxRecDepth 100000 in
theorem lc_best {G : eG} {ad : Nat → Nat} (b L : Nat) (xs : Nat → Int32) (s : St) (h : Nat → va_E) (i : Nat) (hB : BW G ad s h) (hi : i + 6 ≤ L) (hL : L ≤ 3072) (kx : ∀ (s : St) (h : Nat → va_E), BW G ad s h → EV G M_L_law cL_law (some (b, L, xs)) ad 54 (fun v _ => v = some (.int 1)) 18 [some (.ref b), some (.ref (ad 0)), some (.ref (ad 34)), some (.int (nI (i + 6)))] [] h) : EV G M_L_law cL_law (some (b, L, xs)) ad 54 (fun v _ => v = some (.int 1)) 1152 [some (.ref b), some (.ref (ad 0)), some (.ref (ad 34)), some (.int (nI i))] [] h := by
  obtain ⟨hI, ⟨z, hw⟩, ⟨zm, hv⟩⟩ := hB
  refine EV.aload_n (pc := 1152) dL_law_1152 rfl ?_
  refine EV.aload_n (pc := 1153) dL_law_1153 rfl ?_
  refine EV.iload_n (pc := 1154) dL_law_1154 rfl ?_
  refine EV.iconst (pc := 1155) (v := 1) dL_law_1155 (by decide) ?_
  refine EV.iadd (pc := 1156) dL_law_1156 ?_
  refine EV.topi (y := nI (i + 1)) (nI_k i 1) ?_
  refine EV.sld (pc := 1157) dL_law_1157 (vp_in_nI (show i + 1 < L by omega) (by omega)) ?_
  refine EV.topi (y := xs (i + 1)) (by rw [nI_clamp (by omega)]) ?_
  refine EV.aload_n (pc := 1158) dL_law_1158 rfl ?_
  refine EV.iload_n (pc := 1159) dL_law_1159 rfl ?_
  refine EV.iconst (pc := 1160) (v := 2) dL_law_1160 (by decide) ?_
  refine EV.iadd (pc := 1161) dL_law_1161 ?_
  refine EV.topi (y := nI (i + 2)) (nI_k i 2) ?_
  refine EV.sld (pc := 1162) dL_law_1162 (vp_in_nI (show i + 2 < L by omega) (by omega)) ?_
  refine EV.topi (y := xs (i + 2)) (by rw [nI_clamp (by omega)]) ?_
  refine EV.callVPi (pc := 1163) (M' := M_X4_best) dL_law_1163 lkL_119 okV_X4_best (p_best hw hI _ _) (by decide) rfl rfl (Nat.le_of_ble_eq_true rfl) (by decide) hw.h0 (fun h1 hc => ?_)
  obtain ⟨z1, hc⟩ := hc
  have hv1 := hv.carry hc.fr
  refine EV.aload_n (pc := 1166) dL_law_1166 rfl ?_
  refine EV.aload_n (pc := 1167) dL_law_1167 rfl ?_
  refine EV.iload_n (pc := 1168) dL_law_1168 rfl ?_
  refine EV.iconst (pc := 1169) (v := 1) dL_law_1169 (by decide) ?_
  refine EV.iadd (pc := 1170) dL_law_1170 ?_
  refine EV.topi (y := nI (i + 1)) (nI_k i 1) ?_
  refine EV.sld (pc := 1171) dL_law_1171 (vp_in_nI (show i + 1 < L by omega) (by omega)) ?_
  refine EV.topi (y := xs (i + 1)) (by rw [nI_clamp (by omega)]) ?_
  refine EV.aload_n (pc := 1172) dL_law_1172 rfl ?_
  refine EV.iload_n (pc := 1173) dL_law_1173 rfl ?_
  refine EV.iconst (pc := 1174) (v := 2) dL_law_1174 (by decide) ?_
  refine EV.iadd (pc := 1175) dL_law_1175 ?_
  refine EV.topi (y := nI (i + 2)) (nI_k i 2) ?_
  refine EV.sld (pc := 1176) dL_law_1176 (vp_in_nI (show i + 2 < L by omega) (by omega)) ?_
  refine EV.topi (y := xs (i + 2)) (by rw [nI_clamp (by omega)]) ?_
  refine EV.callVPi (pc := 1177) (M' := M_X5_best) dL_law_1177 lkL_122 okV_X5_best (q_best hv1 hI _ _) (by decide) rfl rfl (Nat.le_of_ble_eq_true rfl) (by decide) hv1.h34 (fun h2 hd => ?_)
  obtain ⟨zm2, hd⟩ := hd
  refine EV.icmp_eq (pc := 1180) (tgt := 1271) dL_law_1180 (by decide) (fun _ => ?_) (fun q => absurd rfl q)
  refine EV.iinc (pc := 1271) dL_law_1271 (by decide) rfl (show nI i + Int32.ofInt 6 = nI (i + 6) from nI_k i 6) (by dsimp only [lst1, lk] <;> rfl) ?_
  refine EV.goto (pc := 1274) (tgt := 18) dL_law_1274 (by decide) ?_
  exact kx _ h2 ⟨hI, ⟨z1, hc.carry hd.fr⟩, ⟨zm2, hd.carry (fun _ _ => rfl)⟩⟩

set_option maxHeartbeats 4000000 in
set_option maxRecDepth 100000 in
theorem lc_seen {G : eG} {ad : Nat → Nat} (b L : Nat) (xs : Nat → Int32) (s : St) (h : Nat → va_E) (i : Nat) (hB : BW G ad s h) (hi : i + 6 ≤ L) (hL : L ≤ 3072) (kx : ∀ (s : St) (h : Nat → va_E), BW G ad s h → EV G M_L_law cL_law (some (b, L, xs)) ad 54 (fun v _ => v = some (.int 1)) 18 [some (.ref b), some (.ref (ad 0)), some (.ref (ad 34)), some (.int (nI (i + 6)))] [] h) : EV G M_L_law cL_law (some (b, L, xs)) ad 54 (fun v _ => v = some (.int 1)) 1185 [some (.ref b), some (.ref (ad 0)), some (.ref (ad 34)), some (.int (nI i))] [] h := by
  obtain ⟨hI, ⟨z, hw⟩, ⟨zm, hv⟩⟩ := hB
  refine EV.aload_n (pc := 1185) dL_law_1185 rfl ?_
  refine EV.callVPi (pc := 1186) (M' := M_X4_seen) dL_law_1186 lkL_123 okV_X4_seen (p_seen hw hI) (by decide) rfl rfl (Nat.le_of_ble_eq_true rfl) (by decide) hw.h0 (fun h1 hc => ?_)
  obtain ⟨z1, hc⟩ := hc
  have hv1 := hv.carry hc.fr
  refine EV.aload_n (pc := 1189) dL_law_1189 rfl ?_
  refine EV.callVPi (pc := 1190) (M' := M_X5_seen) dL_law_1190 lkL_126 okV_X5_seen (q_seen hv1 hI) (by decide) rfl rfl (Nat.le_of_ble_eq_true rfl) (by decide) hv1.h34 (fun h2 hd => ?_)
  obtain ⟨zm2, hd⟩ := hd
  refine EV.icmp_eq (pc := 1193) (tgt := 1271) dL_law_1193 (by decide) (fun _ => ?_) (fun q => absurd rfl q)
  refine EV.iinc (pc := 1271) dL_law_1271 (by decide) rfl (show nI i + Int32.ofInt 6 = nI (i + 6) from nI_k i 6) (by dsimp only [lst1, lk] <;> rfl) ?_
  refine EV.goto (pc := 1274) (tgt := 18) dL_law_1274 (by decide) ?_
  exact kx _ h2 ⟨hI, ⟨z1, hc.carry hd.fr⟩, ⟨zm2, hd.carry (fun _ _ => rfl)⟩⟩

set_option maxHeartbeats 4000000 in
set_option maxRecDepth 100000 in
theorem lc_cause {G : eG} {ad : Nat → Nat} (b L : Nat) (xs : Nat → Int32) (s : St) (h : Nat → va_E) (i : Nat) (hB : BW G ad s h) (hi : i + 6 ≤ L) (hL : L ≤ 3072) (kx : ∀ (s : St) (h : Nat → va_E), BW G ad s h → EV G M_L_law cL_law (some (b, L, xs)) ad 54 (fun v _ => v = some (.int 1)) 18 [some (.ref b), some (.ref (ad 0)), some (.ref (ad 34)), some (.int (nI (i + 6)))] [] h) : EV G M_L_law cL_law (some (b, L, xs)) ad 54 (fun v _ => v = some (.int 1)) 1198 [some (.ref b), some (.ref (ad 0)), some (.ref (ad 34)), some (.int (nI i))] [] h := by
  obtain ⟨hI, ⟨z, hw⟩, ⟨zm, hv⟩⟩ := hB
  refine EV.aload_n (pc := 1198) dL_law_1198 rfl ?_
  refine EV.callVPi (pc := 1199) (M' := M_X4_cause) dL_law_1199 lkL_127 okV_X4_cause (p_cause hw hI) (by decide) rfl rfl (Nat.le_of_ble_eq_true rfl) (by decide) hw.h0 (fun h1 hc => ?_)
  obtain ⟨z1, hc⟩ := hc
  have hv1 := hv.carry hc.fr
  refine EV.aload_n (pc := 1202) dL_law_1202 rfl ?_
  refine EV.callVPi (pc := 1203) (M' := M_X5_cause) dL_law_1203 lkL_130 okV_X5_cause (q_cause hv1 hI) (by decide) rfl rfl (Nat.le_of_ble_eq_true rfl) (by decide) hv1.h34 (fun h2 hd => ?_)
  obtain ⟨zm2, hd⟩ := hd
  refine EV.icmp_eq (pc := 1206) (tgt := 1271) dL_law_1206 (by decide) (fun _ => ?_) (fun q => absurd rfl q)
  refine EV.iinc (pc := 1271) dL_law_1271 (by decide) rfl (show nI i + Int32.ofInt 6 = nI (i + 6) from nI_k i 6) (by dsimp only [lst1, lk] <;> rfl) ?_
  refine EV.goto (pc := 1274) (tgt := 18) dL_law_1274 (by decide) ?_
  exact kx _ h2 ⟨hI, ⟨z1, hc.carry hd.fr⟩, ⟨zm2, hd.carry (fun _ _ => rfl)⟩⟩

set_option maxHeartbeats 4000000 in
set_option maxRecDepth 100000 in
theorem lc_causes {G : eG} {ad : Nat → Nat} (b L : Nat) (xs : Nat → Int32) (s : St) (h : Nat → va_E) (i : Nat) (hB : BW G ad s h) (hi : i + 6 ≤ L) (hL : L ≤ 3072) (kx : ∀ (s : St) (h : Nat → va_E), BW G ad s h → EV G M_L_law cL_law (some (b, L, xs)) ad 54 (fun v _ => v = some (.int 1)) 18 [some (.ref b), some (.ref (ad 0)), some (.ref (ad 34)), some (.int (nI (i + 6)))] [] h) : EV G M_L_law cL_law (some (b, L, xs)) ad 54 (fun v _ => v = some (.int 1)) 1211 [some (.ref b), some (.ref (ad 0)), some (.ref (ad 34)), some (.int (nI i))] [] h := by
  obtain ⟨hI, ⟨z, hw⟩, ⟨zm, hv⟩⟩ := hB
  refine EV.aload_n (pc := 1211) dL_law_1211 rfl ?_
  refine EV.aload_n (pc := 1212) dL_law_1212 rfl ?_
  refine EV.iload_n (pc := 1213) dL_law_1213 rfl ?_
  refine EV.iconst (pc := 1214) (v := 1) dL_law_1214 (by decide) ?_
  refine EV.iadd (pc := 1215) dL_law_1215 ?_
  refine EV.topi (y := nI (i + 1)) (nI_k i 1) ?_
  refine EV.sld (pc := 1216) dL_law_1216 (vp_in_nI (show i + 1 < L by omega) (by omega)) ?_
  refine EV.topi (y := xs (i + 1)) (by rw [nI_clamp (by omega)]) ?_
  refine EV.callVPi (pc := 1217) (M' := M_X4_causes) dL_law_1217 lkL_131 okV_X4_causes (p_causes hw hI _) (by decide) rfl rfl (Nat.le_of_ble_eq_true rfl) (by decide) hw.h0 (fun h1 hc => ?_)
  obtain ⟨z1, hc⟩ := hc
  have hv1 := hv.carry hc.fr
  refine EV.aload_n (pc := 1220) dL_law_1220 rfl ?_
  refine EV.aload_n (pc := 1221) dL_law_1221 rfl ?_
  refine EV.iload_n (pc := 1222) dL_law_1222 rfl ?_
  refine EV.iconst (pc := 1223) (v := 1) dL_law_1223 (by decide) ?_
  refine EV.iadd (pc := 1224) dL_law_1224 ?_
  refine EV.topi (y := nI (i + 1)) (nI_k i 1) ?_
  refine EV.sld (pc := 1225) dL_law_1225 (vp_in_nI (show i + 1 < L by omega) (by omega)) ?_
  refine EV.topi (y := xs (i + 1)) (by rw [nI_clamp (by omega)]) ?_
  refine EV.callVPi (pc := 1226) (M' := M_X5_causes) dL_law_1226 lkL_134 okV_X5_causes (q_causes hv1 hI _) (by decide) rfl rfl (Nat.le_of_ble_eq_true rfl) (by decide) hv1.h34 (fun h2 hd => ?_)
  obtain ⟨zm2, hd⟩ := hd
  refine EV.icmp_eq (pc := 1229) (tgt := 1271) dL_law_1229 (by decide) (fun _ => ?_) (fun q => absurd rfl q)
  refine EV.iinc (pc := 1271) dL_law_1271 (by decide) rfl (show nI i + Int32.ofInt 6 = nI (i + 6) from nI_k i 6) (by dsimp only [lst1, lk] <;> rfl) ?_
  refine EV.goto (pc := 1274) (tgt := 18) dL_law_1274 (by decide) ?_
  exact kx _ h2 ⟨hI, ⟨z1, hc.carry hd.fr⟩, ⟨zm2, hd.carry (fun _ _ => rfl)⟩⟩

set_option maxHeartbeats 4000000 in
set_option maxRecDepth 100000 in
theorem lc_count {G : eG} {ad : Nat → Nat} (b L : Nat) (xs : Nat → Int32) (s : St) (h : Nat → va_E) (i : Nat) (hB : BW G ad s h) (hi : i + 6 ≤ L) (hL : L ≤ 3072) (kx : ∀ (s : St) (h : Nat → va_E), BW G ad s h → EV G M_L_law cL_law (some (b, L, xs)) ad 54 (fun v _ => v = some (.int 1)) 18 [some (.ref b), some (.ref (ad 0)), some (.ref (ad 34)), some (.int (nI (i + 6)))] [] h) : EV G M_L_law cL_law (some (b, L, xs)) ad 54 (fun v _ => v = some (.int 1)) 1234 [some (.ref b), some (.ref (ad 0)), some (.ref (ad 34)), some (.int (nI i))] [] h := by
  obtain ⟨hI, ⟨z, hw⟩, ⟨zm, hv⟩⟩ := hB
  refine EV.aload_n (pc := 1234) dL_law_1234 rfl ?_
  refine EV.aload_n (pc := 1235) dL_law_1235 rfl ?_
  refine EV.iload_n (pc := 1236) dL_law_1236 rfl ?_
  refine EV.iconst (pc := 1237) (v := 1) dL_law_1237 (by decide) ?_
  refine EV.iadd (pc := 1238) dL_law_1238 ?_
  refine EV.topi (y := nI (i + 1)) (nI_k i 1) ?_
  refine EV.sld (pc := 1239) dL_law_1239 (vp_in_nI (show i + 1 < L by omega) (by omega)) ?_
  refine EV.topi (y := xs (i + 1)) (by rw [nI_clamp (by omega)]) ?_
  refine EV.callVPi (pc := 1240) (M' := M_X4_count) dL_law_1240 lkL_135 okV_X4_count (p_count hw hI _) (by decide) rfl rfl (Nat.le_of_ble_eq_true rfl) (by decide) hw.h0 (fun h1 hc => ?_)
  obtain ⟨z1, hc⟩ := hc
  have hv1 := hv.carry hc.fr
  refine EV.aload_n (pc := 1243) dL_law_1243 rfl ?_
  refine EV.aload_n (pc := 1244) dL_law_1244 rfl ?_
  refine EV.iload_n (pc := 1245) dL_law_1245 rfl ?_
  refine EV.iconst (pc := 1246) (v := 1) dL_law_1246 (by decide) ?_
  refine EV.iadd (pc := 1247) dL_law_1247 ?_
  refine EV.topi (y := nI (i + 1)) (nI_k i 1) ?_
  refine EV.sld (pc := 1248) dL_law_1248 (vp_in_nI (show i + 1 < L by omega) (by omega)) ?_
  refine EV.topi (y := xs (i + 1)) (by rw [nI_clamp (by omega)]) ?_
  refine EV.callVPi (pc := 1249) (M' := M_X5_count) dL_law_1249 lkL_138 okV_X5_count (q_count hv1 hI _) (by decide) rfl rfl (Nat.le_of_ble_eq_true rfl) (by decide) hv1.h34 (fun h2 hd => ?_)
  obtain ⟨zm2, hd⟩ := hd
  refine EV.icmp_eq (pc := 1252) (tgt := 1271) dL_law_1252 (by decide) (fun _ => ?_) (fun q => absurd rfl q)
  refine EV.iinc (pc := 1271) dL_law_1271 (by decide) rfl (show nI i + Int32.ofInt 6 = nI (i + 6) from nI_k i 6) (by dsimp only [lst1, lk] <;> rfl) ?_
  refine EV.goto (pc := 1274) (tgt := 18) dL_law_1274 (by decide) ?_
  exact kx _ h2 ⟨hI, ⟨z1, hc.carry hd.fr⟩, ⟨zm2, hd.carry (fun _ _ => rfl)⟩⟩

set_option maxHeartbeats 4000000 in
set_option maxRecDepth 100000 in
theorem lc_digest {G : eG} {ad : Nat → Nat} (b L : Nat) (xs : Nat → Int32) (s : St) (h : Nat → va_E) (i : Nat) (hB : BW G ad s h) (hi : i + 6 ≤ L) (hL : L ≤ 3072) (kx : ∀ (s : St) (h : Nat → va_E), BW G ad s h → EV G M_L_law cL_law (some (b, L, xs)) ad 54 (fun v _ => v = some (.int 1)) 18 [some (.ref b), some (.ref (ad 0)), some (.ref (ad 34)), some (.int (nI (i + 6)))] [] h) : EV G M_L_law cL_law (some (b, L, xs)) ad 54 (fun v _ => v = some (.int 1)) 1257 [some (.ref b), some (.ref (ad 0)), some (.ref (ad 34)), some (.int (nI i))] [] h := by
  obtain ⟨hI, ⟨z, hw⟩, ⟨zm, hv⟩⟩ := hB
  refine EV.aload_n (pc := 1257) dL_law_1257 rfl ?_
  refine EV.callVPi (pc := 1258) (M' := M_X4_digest) dL_law_1258 lkL_139 okV_X4_digest (p_digest hw hI) (by decide) rfl rfl (Nat.le_of_ble_eq_true rfl) (by decide) hw.h0 (fun h1 hc => ?_)
  obtain ⟨z1, hc⟩ := hc
  have hv1 := hv.carry hc.fr
  refine EV.aload_n (pc := 1261) dL_law_1261 rfl ?_
  refine EV.callVPi (pc := 1262) (M' := M_X5_digest) dL_law_1262 lkL_143 okV_X5_digest (q_digest hv1 hI) (by decide) rfl rfl (Nat.le_of_ble_eq_true rfl) (by decide) hv1.h34 (fun h2 hd => ?_)
  obtain ⟨zm2, hd⟩ := hd
  refine EV.lcmp_eq (pc := 1265) (tgt := 1271) dL_law_1265 dL_law_1266 (by decide) (fun _ => ?_) (fun q => absurd rfl q)
  refine EV.iinc (pc := 1271) dL_law_1271 (by decide) rfl (show nI i + Int32.ofInt 6 = nI (i + 6) from nI_k i 6) (by dsimp only [lst1, lk] <;> rfl) ?_
  refine EV.goto (pc := 1274) (tgt := 18) dL_law_1274 (by decide) ?_
  exact kx _ h2 ⟨hI, ⟨z1, hc.carry hd.fr⟩, ⟨zm2, hd.carry (fun _ _ => rfl)⟩⟩
