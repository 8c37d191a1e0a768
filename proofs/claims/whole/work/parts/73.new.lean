/-! THE LAYER FOR METHODS THAT MAKE CELLS: the world is a list of cells; kc cells of ks slots are still to be made -/
abbrev nP : Type := Option Value → va_W → Prop
def RN (G : eG) (M : eM) (cc : ByteArray) (post : nP) (p : Program) (e : Env) (R : Room) (s : State) (m : MethodId) (args : Array Value) (below : List Frame) (meth : Method) (c : Code) (A : Nat → Prop) (cells slots : Nat) (Q : State → Prop) : Prop :=
  ∀ (v : Option Value) (ws : va_W) (H : Heap) (locs : List Loc) (pc : Nat) (ls : Array Slot), post v ws → va_P G.2.1 vwCl ws H → va_D A ws → va_S A s.heap H locs → decode cc pc = .ok (retI v, 1) → retOK M.2.2.1 v → W p G.1 e R s m args below meth c H locs cells slots Q (F0 m pc ls v.toList)
def NV (G : eG) (M : eM) (cc : ByteArray) (X : Option (Nat × Nat × (Nat → Int32))) (post : nP) (kc ks : Nat) (ws : va_W) (pc : Nat) (lv : List (Option Value)) (st : List Value) : Prop :=
  ∀ (p : Program) (e : Env) (R : Room) (s : State) (m : MethodId) (args : Array Value) (below : List Frame) (meth : Method) (c : Code) (A : Nat → Prop) (cells slots : Nat) (Q : State → Prop) (H : Heap) (locs : List Loc) (ls : Array Slot),
    CX G M cc p R s m args c A (cells + kc) (slots + ks) → (M.1.name = "<init>" → meth.name = "<init>") → XX X s A → RN G M cc post p e R s m args below meth c A (cells + kc) (slots + ks) Q → va_P G.2.1 vwCl ws H → va_D A ws → va_S A s.heap H locs → lvH ls M.2.1 lv → W p G.1 e R s m args below meth c H locs cells slots Q (F0 m pc ls st)
def WBn (G : eG) (ws : va_W) (sz : Nat) : State → Prop := fun U => U.heap.size = sz ∧ va_P G.2.1 vwCl ws U.heap ∧ va_K G.2.1 vwCl (tysOf G.2.2) U ∧ va_D (fun _ => True) ws ∧ NX U
def QN (G : eG) (post : nP) (A : Nat → Prop) : Array Value → State → Outcome → State → Prop := fun _ st oc t => (∃ (v : Option Value) (ws' : va_W), oc = .returned v ∧ post v ws' ∧ va_P G.2.1 vwCl ws' t.heap ∧ va_K G.2.1 vwCl (tysOf G.2.2) t ∧ va_D A ws') ∧ va_F A st t
def MN (G : eG) (M : eM) (cc : ByteArray) (kc ks : Nat) (av : List Value) (ws : va_W) (post : nP) : Prop :=
  ∀ sz : Nat, Met G.1 M.1 (.code M.1 cc M.2.1 M.2.2.1 :: eT) { frames := M.2.2.2.1, cells := kc, slots := ks, locals := M.2.2.2.2 } (va_Pc av (WBn G ws sz)) (QN G post (va_A ws sz)) kc ks (va_A ws sz)
theorem MN.of {G : eG} {M : eM} {cc : ByteArray} {kc ks : Nat} {av : List Value} {ws : va_W} {post : nP} {lv : List (Option Value)} (hy : plainFor M.1 = true) (hret : M.2.2.1 = none) (hlen : (lg_sl av).length ≤ M.2.1) (hlv : linit av M.2.1 = lv) (k : NV G M cc none post kc ks ws 0 lv []) : MN G M cc kc ks av ws post := by
  intro sz
  refine va_MetF (cc := cc) (maxL := M.2.1) (ret := M.2.2.1) hy rfl ?_
  intro p e s m args below meth c s₁ B hml hv
  obtain ⟨rfl, hsz, hP, hK, hD0, hN⟩ := hv
  have hts := atoms_spec (ws := .code M.1 cc M.2.1 M.2.2.1 :: eT) B.pre
  have hown : s.vm.findClass M.1.cls = some m.cls := findClass_of_methodNamed B.named
  have hlocks := B.notSynchronized
  have hnm : M.1.name = "<init>" → meth.name = "<init>" := fun h => (name_of_methodNamed B.named B.method).1.trans h
  subst hsz
  have hD := hD0.self (sz := s.heap.size)
  have hl := lv_entry av (n := M.2.1) hlen
  rw [lg_entry_eq]
  have hl2 : lvH ((lg_sl av ++ List.replicate (M.2.1 - (lg_sl av).length) Slot.unset).toArray) M.2.1 lv := by
    refine ⟨hl.1, hl.2.1, fun i v hi => ?_⟩
    rw [← hlv] at hi
    have := linit_args av M.2.1 0 i v hi
    rw [Nat.zero_add] at this
    exact hl.2.2 (i, v) this
  generalize (lg_sl av ++ List.replicate (M.2.1 - (lg_sl av).length) Slot.unset).toArray = ls at hl2 ⊢
  refine k p e _ s m _ below meth c (va_A ws s.heap.size) 0 0 _ s.heap [] ls ⟨B.exec, B.bytes, hml, hown, fun w hw => hts w (List.mem_cons_of_mem _ hw), hK, fun q hq => Or.inr hq, Nat.le_refl _, Nat.le_refl _, Nat.le_of_eq (Nat.zero_add _), Nat.le_of_eq (Nat.zero_add _), hN⟩ hnm (fun q hq => by cases hq) ?_ hP hD va_S.rf hl2
  intro v ws' H locs pc ls' hpost hP' hD' hS' hdec hok
  have hq : ∀ t : State, t.heap = H → s.WarmedH t.vm → QN G post (va_A ws s.heap.size) av.toArray s (.returned v) t := fun t ht hW => ⟨⟨v, ws', rfl, hpost, by rw [ht]; exact hP', va_K.moved hW.alike hK, hD'⟩, hS'.F ht⟩
  have hr := B.returns
  rw [Nat.zero_add, Nat.zero_add]
  rw [hret] at hok
  match v, hok with
  | none, _ => exact W.vret B.exec B.bytes (hr.trans hret) hq hS'.2.2 hdec hlocks
theorem NV.ofEV {G : eG} {M : eM} {cc : ByteArray} {X : Option (Nat × Nat × (Nat → Int32))} {post : nP} {post' : eP} {ad : Nat → Nat} {n pc : Nat} {lv : List (Option Value)} {st : List Value} {h : Nat → va_E} {ws : va_W} (hw : ws = wld ad n h) (hp : ∀ v h', post' v h' → post v (wld ad n h')) (k : EV G M cc X ad n post' pc lv st h) : NV G M cc X post 0 0 ws pc lv st := by
  subst hw
  intro p e R s m args below meth c A cells slots Q H locs ls hC hN hX hR hP hD hS hl
  exact k p e R s m args below meth c A cells slots Q H locs ls hC hX (fun v h H locs pc ls hq hP hD hS hd hok => hR v (wld ad n h) H locs pc ls (hp v h hq) hP hD hS hd hok) hP hD hS hl
section NVR
variable {G : eG} {M : eM} {cc : ByteArray} {X : Option (Nat × Nat × (Nat → Int32))} {post : nP} {kc ks : Nat} {ws : va_W} {pc : Nat} {lv : List (Option Value)} {rest : List Value}
theorem NV.wor {ws' : va_W} {st : List Value} (e : ws = ws') (k : NV G M cc X post kc ks ws' pc lv st) : NV G M cc X post kc ks ws pc lv st := by subst e; exact k
theorem NV.topi {x y : Int32} (e : x = y) (k : NV G M cc X post kc ks ws pc lv (.int y :: rest)) : NV G M cc X post kc ks ws pc lv (.int x :: rest) := by subst e; exact k
theorem NV.vret (hd : decode cc pc = .ok (.return_, 1)) (hok : retOK M.2.2.1 none) (hp : post none ws) : NV G M cc X post 0 0 ws pc lv [] := by
  intro p e R s m args below meth c A cells slots Q H locs ls hC hN hX hR hP hD hS hl
  exact hR none ws H locs pc ls hp hP hD hS hd hok
theorem NV.iconst {a : Int} {v : Int32} (hd : decode cc pc = .ok (.iconst a, 1)) (hv : Int32.ofInt a = v) (k : NV G M cc X post kc ks ws (pc + 1) lv (.int v :: rest)) : NV G M cc X post kc ks ws pc lv rest := by
  intro p e R s m args below meth c A cells slots Q H locs ls hC hN hX hR hP hD hS hl
  exact lv_iconst hC.1 hC.2.1 hd hv (k p e R s m args below meth c A cells slots Q H locs ls hC hN hX hR hP hD hS hl)
theorem NV.bipush {a : Int} {v : Int32} (hd : decode cc pc = .ok (.bipush a, 2)) (hv : (Int8.ofInt a).toInt32 = v) (k : NV G M cc X post kc ks ws (pc + 2) lv (.int v :: rest)) : NV G M cc X post kc ks ws pc lv rest := by
  intro p e R s m args below meth c A cells slots Q H locs ls hC hN hX hR hP hD hS hl
  exact lv_bipush hC.1 hC.2.1 hd hv (k p e R s m args below meth c A cells slots Q H locs ls hC hN hX hR hP hD hS hl)
theorem NV.sipush {a : Int} {v : Int32} (hd : decode cc pc = .ok (.sipush a, 3)) (hv : (Int16.ofInt a).toInt32 = v) (k : NV G M cc X post kc ks ws (pc + 3) lv (.int v :: rest)) : NV G M cc X post kc ks ws pc lv rest := by
  intro p e R s m args below meth c A cells slots Q H locs ls hC hN hX hR hP hD hS hl
  exact lv_sipush hC.1 hC.2.1 hd hv (k p e R s m args below meth c A cells slots Q H locs ls hC hN hX hR hP hD hS hl)
theorem NV.dup {v : Value} (hd : decode cc pc = .ok (.dup, 1)) (hv : v.category = 1) (k : NV G M cc X post kc ks ws (pc + 1) lv (v :: v :: rest)) : NV G M cc X post kc ks ws pc lv (v :: rest) := by
  intro p e R s m args below meth c A cells slots Q H locs ls hC hN hX hR hP hD hS hl
  exact lv_dup hC.1 hC.2.1 hd hv (k p e R s m args below meth c A cells slots Q H locs ls hC hN hX hR hP hD hS hl)
theorem NV.aload_n {i : Fin 4} {x : Nat} (hd : decode cc pc = .ok (.aload_n i, 1)) (hv : lget lv (i : Nat) = some (.ref x)) (k : NV G M cc X post kc ks ws (pc + 1) lv (.ref x :: rest)) : NV G M cc X post kc ks ws pc lv rest := by
  intro p e R s m args below meth c A cells slots Q H locs ls hC hN hX hR hP hD hS hl
  exact lv_aload_n hC.1 hC.2.1 hd rfl (hl.2.2 _ _ hv) (k p e R s m args below meth c A cells slots Q H locs ls hC hN hX hR hP hD hS hl)
theorem NV.iload_n {i : Fin 4} {x : Int32} (hd : decode cc pc = .ok (.iload_n i, 1)) (hv : lget lv (i : Nat) = some (.int x)) (k : NV G M cc X post kc ks ws (pc + 1) lv (.int x :: rest)) : NV G M cc X post kc ks ws pc lv rest := by
  intro p e R s m args below meth c A cells slots Q H locs ls hC hN hX hR hP hD hS hl
  exact lv_iload_n hC.1 hC.2.1 hd rfl (hl.2.2 _ _ hv) (k p e R s m args below meth c A cells slots Q H locs ls hC hN hX hR hP hD hS hl)
theorem NV.istore_n (i : Nat) {i0 : Fin 4} {x : Int32} {lv' : List (Option Value)} (hd : decode cc pc = .ok (.istore_n i0, 1)) (hi : (i0 : Nat) = i) (hn : i < M.2.1) (hv : lst1 lv i (.int x) = lv') (k : NV G M cc X post kc ks ws (pc + 1) lv' rest) : NV G M cc X post kc ks ws pc lv (.int x :: rest) := by
  intro p e R s m args below meth c A cells slots Q H locs ls hC hN hX hR hP hD hS hl
  subst hv
  exact lv_istore_n hC.1 hC.2.1 hd hi hl.has hn rfl (fun ls' hl' => (k p e R s m args below meth c A cells slots Q H locs ls' hC hN hX hR hP hD hS (hl.st1 hl')))
theorem NV.astore_n (i : Nat) {i0 : Fin 4} {x : Nat} {lv' : List (Option Value)} (hd : decode cc pc = .ok (.astore_n i0, 1)) (hi : (i0 : Nat) = i) (hn : i < M.2.1) (hv : lst1 lv i (.ref x) = lv') (k : NV G M cc X post kc ks ws (pc + 1) lv' rest) : NV G M cc X post kc ks ws pc lv (.ref x :: rest) := by
  intro p e R s m args below meth c A cells slots Q H locs ls hC hN hX hR hP hD hS hl
  subst hv
  exact lv_astore_n hC.1 hC.2.1 hd hi hl.has hn rfl (fun ls' hl' => (k p e R s m args below meth c A cells slots Q H locs ls' hC hN hX hR hP hD hS (hl.st1 hl')))
theorem NV.iinc {i : Nat} {a : Int} {x y : Int32} {lv' : List (Option Value)} (hd : decode cc pc = .ok (.iinc i a, 3)) (hn : i < M.2.1) (hg : lget lv i = some (.int x)) (hy : x + Int32.ofInt a = y) (hv : lst1 lv i (.int y) = lv') (k : NV G M cc X post kc ks ws (pc + 3) lv' rest) : NV G M cc X post kc ks ws pc lv rest := by
  intro p e R s m args below meth c A cells slots Q H locs ls hC hN hX hR hP hD hS hl
  subst hv
  obtain ⟨j, hj⟩ := List.getElem?_of_mem (lprs_mem.mpr (show (i, Value.int x).1 < M.2.1 ∧ lget lv (i, Value.int x).1 = some (i, Value.int x).2 from ⟨hn, hg⟩))
  exact lv_iinc hC.1 hC.2.1 hd hl.has hj hy hn rfl (fun ls' hl' => (k p e R s m args below meth c A cells slots Q H locs ls' hC hN hX hR hP hD hS (hl.st1 hl')))
theorem NV.icmp_ge {x y : Int32} {off : Int} {tgt : Nat} (hd : decode cc pc = .ok (.if_icmp .ge off, 3)) (ht : (pc : Int) + off = (tgt : Int)) (kt : y ≤ x → NV G M cc X post kc ks ws tgt lv rest) (kf : ¬ y ≤ x → NV G M cc X post kc ks ws (pc + 3) lv rest) : NV G M cc X post kc ks ws pc lv (.int y :: .int x :: rest) := by
  intro p e R s m args below meth c A cells slots Q H locs ls hC hN hX hR hP hD hS hl
  exact lv_icmp_ge hC.1 hC.2.1 hd ht (fun q => kt q p e R s m args below meth c A cells slots Q H locs ls hC hN hX hR hP hD hS hl) (fun q => kf q p e R s m args below meth c A cells slots Q H locs ls hC hN hX hR hP hD hS hl)
theorem NV.goto {off : Int} {tgt : Nat} (hd : decode cc pc = .ok (.goto off, 3)) (ht : (pc : Int) + off = (tgt : Int)) (k : NV G M cc X post kc ks ws tgt lv rest) : NV G M cc X post kc ks ws pc lv rest := by
  intro p e R s m args below meth c A cells slots Q H locs ls hC hN hX hR hP hD hS hl
  exact lv_goto hC.1 hC.2.1 hd ht (k p e R s m args below meth c A cells slots Q H locs ls hC hN hX hR hP hD hS hl)
theorem NV.getf {idx ci f q a : Nat} {fs : List Value} {v : Value} (hd : decode cc pc = .ok (.getfield idx, 3)) (hf : okF M.1.cls idx ci f) (hq : ws[q]? = some (a, .inr (ci, fs))) (hv : fs[f]? = some v) (k : NV G M cc X post kc ks ws (pc + 3) lv (v :: rest)) : NV G M cc X post kc ks ws pc lv (.ref a :: rest) := by
  intro p e R s m args below meth c A cells slots Q H locs ls hC hN hX hR hP hD hS hl
  obtain ⟨C, T, N, f1, f2, f3, f4, f5⟩ := hf
  exact va_get hC.1 hC.2.1 hC.2.2.2.2.1 f3 hC.2.2.2.1 hC.2.2.2.2.2.1 hP q hq f1 f f2 (hC.2.2.2.2.1 _ f4) (fun x hx => by rw [f5] at hx; exact hx) hv hd (k p e R s m args below meth c A cells slots Q H locs ls hC hN hX hR hP hD hS hl)
theorem NV.putf {idx ci f q a : Nat} {fs : List Value} {v : Value} {ty : FieldType} (hd : decode cc pc = .ok (.putfield idx, 3)) (hf : okP M.1.cls idx ci f ty) (hq : ws[q]? = some (a, .inr (ci, fs))) (hn : narrow ty v = v) (hfit : fits ty v = true) (hl0 : f < fs.length) (k : NV G M cc X post kc ks (ws.set q (a, .inr (ci, fs.set f v))) (pc + 3) lv rest) : NV G M cc X post kc ks ws pc lv (v :: .ref a :: rest) := by
  intro p e R s m args below meth c A cells slots Q H locs ls hC hN hX hR hP hD hS hl
  obtain ⟨C, T, N, ty0, f1, f2, f3, f4, f5, f6, f7, f8, f9⟩ := hf
  exact va_put hC.1 hC.2.1 hC.2.2.2.2.1 f3 ty0 f6 f7 hC.2.2.2.1 hC.2.2.2.2.2.1 hP hD hS q hq f1 f f2 (hC.2.2.2.2.1 _ f4) (fun x hx => by rw [f5] at hx; exact hx) f8 f9 hn hfit hl0 hd (fun H1 locs1 hP1 hD1 hS1 => (k p e R s m args below meth c A cells slots Q H1 locs1 ls hC hN hX hR hP1 hD1 hS1 hl))
/-- a final field, written in its own class's constructor -/
def okQ (own : String) (idx ci f : Nat) (ty : FieldType) : Prop := ∃ (C : String) (T : u_T) (N : Nat) (ty0 : Nat → FieldType), vwCl[ci]? = some (C, T, N) ∧ f < N ∧ (∀ w ∈ u_ws C T N, w ∈ eT) ∧ Cond.fieldLink own idx C (T f).2.1 (T f).2.2.1 ∈ eT ∧ (T f).1 = C ∧ (∀ k, k < N → parseFieldDescriptor (T k).2.2.1 = some (ty0 k)) ∧ (∀ a, a < N → ∀ b, b < N → a ≠ b → (T a).2.1 ≠ (T b).2.1) ∧ (T f).2.2.2 = true ∧ parseFieldDescriptor (T f).2.2.1 = some ty ∧ (T f).1 = own
theorem NV.putF {idx ci f q a : Nat} {fs : List Value} {v : Value} {ty : FieldType} (hd : decode cc pc = .ok (.putfield idx, 3)) (hf : okQ M.1.cls idx ci f ty) (hi : M.1.name = "<init>") (hq : ws[q]? = some (a, .inr (ci, fs))) (hn : narrow ty v = v) (hfit : fits ty v = true) (hl0 : f < fs.length) (k : NV G M cc X post kc ks (ws.set q (a, .inr (ci, fs.set f v))) (pc + 3) lv rest) : NV G M cc X post kc ks ws pc lv (v :: .ref a :: rest) := by
  intro p e R s m args below meth c A cells slots Q H locs ls hC hN hX hR hP hD hS hl
  obtain ⟨C, T, N, ty0, f1, f2, f3, f4, f5, f6, f7, f8, f9, f10⟩ := hf
  exact va_putF hC.1 hC.2.1 hC.2.2.2.2.1 f3 ty0 f6 f7 hC.2.2.2.1 hC.2.2.2.2.2.1 hP hD hS q hq f1 f f2 (hC.2.2.2.2.1 _ f4) (fun x hx => by rw [f5] at hx; exact hx) f8 (hN hi) f10 f9 hn hfit hl0 hd (fun H1 locs1 hP1 hD1 hS1 => (k p e R s m args below meth c A cells slots Q H1 locs1 ls hC hN hX hR hP1 hD1 hS1 hl))
/-- an object -/
def okN (own : String) (idx ci N : Nat) (fs : List Value) : Prop := ∃ (C : String) (T : u_T) (ty0 : Nat → FieldType), vwCl[ci]? = some (C, T, N) ∧ (∀ w ∈ u_ws C T N, w ∈ eT) ∧ (∀ k, k < N → parseFieldDescriptor (T k).2.2.1 = some (ty0 k)) ∧ Cond.classLink own idx C ∈ eT ∧ Cond.instantiable C N ∈ eT ∧ Cond.initialized C ∈ eT ∧ ∀ j, j < N → defaultValue (ty0 j) = vp_V fs j
theorem NV.new {idx ci N : Nat} {fs : List Value} (hd : decode cc pc = .ok (.new idx, 3)) (ho : okN M.1.cls idx ci N fs) (k : ∀ q : Nat, NV G M cc X post kc ks (ws ++ [(q, .inr (ci, fs))]) (pc + 3) lv (.ref q :: rest)) : NV G M cc X post (kc + 1) (ks + N) ws pc lv rest := by
  intro p e R s m args below meth c A cells slots Q H locs ls hC hN hX hR hP hD hS hl
  obtain ⟨C, T, ty0, f1, f2, f3, f4, f5, f6, f7⟩ := ho
  have e1 : cells + (kc + 1) = cells + 1 + kc := by omega
  have e2 : slots + (ks + N) = slots + N + ks := by omega
  rw [e1, e2] at hC hR
  have hb1 := hC.2.2.2.2.2.2.2.2.2.1
  have hb2 := hC.2.2.2.2.2.2.2.2.2.2.1
  exact va_new hC.1 hC.2.1 hC.2.2.2.2.1 f2 ty0 f3 hC.2.2.2.1 (hC.2.2.2.2.1 _ f4) (hC.2.2.2.2.1 _ f5) (hC.2.2.2.2.1 _ f6) hC.2.2.2.2.2.1 hP hD hS hC.2.2.2.2.2.2.1 f1 f7 (by omega) (by omega) hd (fun q H1 hP1 hD1 hS1 => k q p e R s m args below meth c A (cells + 1) (slots + N) Q H1 locs ls hC hN hX hR hP1 hD1 hS1 hl)
theorem RA_same {U : State} {a b : ClassId} {ty : FieldType} (h1 : va_RA U a ty) (h2 : va_RA U b ty) : a = b := by
  cases ty with
  | object C =>
    obtain ⟨k1, c1, -, -, -, e1⟩ := h1
    obtain ⟨k2, c2, -, -, -, e2⟩ := h2
    exact Option.some.inj (e1.symm.trans e2)
  | _ => exact Option.some.inj (Eq.trans (Eq.symm h1) h2)
theorem NV.newa {atype : ArrayType} {t0 N : Nat} {ty : FieldType} {cA0 : ClassId} {a0 : vp_A} {x : Int32} (hd : decode cc pc = .ok (.newarray atype, 2)) (hw : Cond.arrayClass (newarray.typeOf atype) ∈ eT) (hty : newarray.typeOf atype = ty) (ht : (tysOf G.2.2)[t0]? = some (cA0, ty)) (ha : ∀ cA : ClassId, vp_cell cA a0 = arrV cA N (fun _ => defaultValue ty)) (hn : ¬ x < 0) (hN : x.toNatClampNeg = N) (hby : N * componentBytes ty ≤ 536870912) (k : ∀ q : Nat, NV G M cc X post kc ks (ws ++ [(q, .inl (cA0, a0))]) (pc + 2) lv (.ref q :: rest)) : NV G M cc X post (kc + 1) (ks + N) ws pc lv (.int x :: rest) := by
  intro p e R s m args below meth c A cells slots Q H locs ls hC hNm hX hR hP hD hS hl
  have e1 : cells + (kc + 1) = cells + 1 + kc := by omega
  have e2 : slots + (ks + N) = slots + N + ks := by omega
  rw [e1, e2] at hC hR
  have hb1 := hC.2.2.2.2.2.2.2.2.2.1
  have hb2 := hC.2.2.2.2.2.2.2.2.2.2.1
  refine va_newa hC.1 hC.2.1 (hC.2.2.2.2.1 _ hw) hty hC.2.2.2.2.2.1 hP hD hS hC.2.2.2.2.2.2.1 ha hn hN hby (by omega) (by omega) hd (fun q cA H1 hK1 hP1 hD1 hS1 => ?_)
  have r1 := (hK1.2 (tysOf G.2.2).length (cA, ty) (by simp)).2
  have r2 := (hC.2.2.2.2.2.1.2 t0 (cA0, ty) ht).2
  have e3 := RA_same r1 r2
  subst e3
  exact k q p e R s m args below meth c A (cells + 1) (slots + N) Q H1 locs ls hC hNm hX hR hP1 hD1 hS1 hl
theorem NV.newq {idx t0 N : Nat} {C : String} {cA0 : ClassId} {x : Int32} (hd : decode cc pc = .ok (.anewarray idx, 3)) (hw : Cond.classLink M.1.cls idx C ∈ eT) (ho : ∀ U : State, NX U → va_AO C U) (ht : (tysOf G.2.2)[t0]? = some (cA0, .object C)) (hn : ¬ x < 0) (hN : x.toNatClampNeg = N) (hby : N * 4 ≤ 536870912) (k : ∀ q : Nat, NV G M cc X post kc ks (ws ++ [(q, .inl (cA0, N, .inr (.inr (.inr (.inr (fun _ => none))))))]) (pc + 3) lv (.ref q :: rest)) : NV G M cc X post (kc + 1) (ks + N) ws pc lv (.int x :: rest) := by
  intro p e R s m args below meth c A cells slots Q H locs ls hC hNm hX hR hP hD hS hl
  have e1 : cells + (kc + 1) = cells + 1 + kc := by omega
  have e2 : slots + (ks + N) = slots + N + ks := by omega
  rw [e1, e2] at hC hR
  have hb1 := hC.2.2.2.2.2.2.2.2.2.1
  have hb2 := hC.2.2.2.2.2.2.2.2.2.2.1
  refine va_newq hC.1 hC.2.1 hC.2.2.2.1 (hC.2.2.2.2.1 _ hw) (ho s hC.2.2.2.2.2.2.2.2.2.2.2) hC.2.2.2.2.2.1 hP hD hS hC.2.2.2.2.2.2.1 hn hN hby (by omega) (by omega) hd (fun q cA H1 hK1 hP1 hD1 hS1 => ?_)
  have r1 := (hK1.2 (tysOf G.2.2).length (cA, .object C) (by simp)).2
  have r2 := (hC.2.2.2.2.2.1.2 t0 (cA0, .object C) ht).2
  have e3 := RA_same r1 r2
  subst e3
  exact k q p e R s m args below meth c A (cells + 1) (slots + N) Q H1 locs ls hC hNm hX hR hP1 hD1 hS1 hl
theorem NV.aast {q0 t0 qk ci a n v : Nat} {cA : ClassId} {r : vw_C} {vs : List Value} {f : Nat → Option Nat} {i : Int32} (hd : decode cc pc = .ok (.aastore, 1)) (ha : ws[q0]? = some (a, .inl (cA, n, .inr (.inr (.inr (.inr f)))))) (ht : (tysOf G.2.2)[t0]? = some (cA, .object r.1)) (hv : ws[qk]? = some (v, .inr (ci, vs))) (hc : vwCl[ci]? = some r) (hin : vp_in i n) (k : NV G M cc X post kc ks (ws.set q0 (a, .inl (cA, n, .inr (.inr (.inr (.inr (va_up f i.toNatClampNeg (some v)))))))) (pc + 1) lv rest) : NV G M cc X post kc ks ws pc lv (.ref v :: .int i :: .ref a :: rest) := by
  intro p e R s m args below meth c A cells slots Q H locs ls hC hN hX hR hP hD hS hl
  exact va_astq hC.1 hC.2.1 hC.2.2.2.2.2.1 hP hD hS q0 t0 qk ci ha ht hv hc hin hd (fun H1 locs1 hP1 hD1 hS1 => k p e R s m args below meth c A cells slots Q H1 locs1 ls hC hN hX hR hP1 hD1 hS1 hl)
theorem NV.objI {idx a : Nat} (hd : decode cc pc = .ok (.invokespecial idx, 3)) (h1 : Cond.methodLink M.1.cls idx Lib.objectInit ∈ eT) (h2 : Cond.instanceMethod Lib.objectInit ∈ eT) (h3 : Cond.code Lib.objectInit ⟨#[0xb1]⟩ 1 none ∈ eT) (hf : 1 ≤ M.2.2.2.1) (hl0 : (rest.map fun v => v.category).sum + 12 ≤ M.2.2.2.2) (k : NV G M cc X post kc ks ws (pc + 3) lv rest) : NV G M cc X post kc ks ws pc lv (.ref a :: rest) := by
  intro p e R s m args below meth c A cells slots Q H locs ls hC hN hX hR hP hD hS hl
  have hf1 := hC.2.2.2.2.2.2.2.1
  have hf2 := hC.2.2.2.2.2.2.2.2.1
  refine W.objInit hC.1 hC.2.1 hC.2.2.2.1 (hC.2.2.2.2.1 _ h1) (hC.2.2.2.2.1 _ h2) (hC.2.2.2.2.1 _ h3) rfl (by rw [hC.2.2.1]; exact hl.1) rfl hd (by omega) (by show 2 * 0 + _ + 12 ≤ _; omega) ?_
  exact k p e R s m args below meth c A cells slots Q H locs ls hC hN hX hR hP hD hS hl
theorem va_calln {p : Program} {l : Launch} {e : Env} {R : Room} {s : State} {m : MethodId} {args : Array Value} {below : List Frame} {meth : Method} {c : Code} {H : Heap} {locs : List Loc} {cells slots mc ms : Nat} {Q : State → Prop} {pc : Nat} {ls : Array Slot} {rest st0 : List Value} {a : Array Value} {A0 A1 : Nat → Prop} {H0 : Heap} {free : Addr → Prop} {G : eG} {post : nP}
    (hr : va_Run p l e R s m args below meth c H locs cells slots mc ms (F0 m pc ls st0) rest (QN G post A1 a) free) (hS : va_S A0 H0 H locs) (hA : ∀ q, q < H.size → A1 q → A0 q) (hA2 : ∀ q, A1 q → A0 q) (hf : ∀ q, free q → A0 q)
    (kk : ∀ (v : Option Value) (ws' : va_W) (H1 : Heap) (locs1 : List Loc), post v ws' → va_P G.2.1 vwCl ws' H1 → va_D A0 ws' → va_S A0 H0 H1 locs1 → W p l e R s m args below meth c H1 locs1 (cells + mc) (slots + ms) Q (F0 m (pc + 3) ls (v.toList ++ rest))) : W p l e R s m args below meth c H locs cells slots Q (F0 m pc ls st0) := by
  intro T hT Y
  obtain ⟨v, st₀, t, T', L, h0, X', hL, e1, e2, ⟨⟨v', h', hv, hp, hb, hk', hd'⟩, hz, hk⟩, st⟩ := hr T hT Y
  cases hv
  rw [h0] at hz hk
  obtain ⟨t2, a1, b1⟩ := kk v h' T'.heap (locs ++ L) hp (by rw [e1]; exact hb) (hd'.weaken (fun _ q _ hq => hA2 q.1 hq))
    ⟨Nat.le_trans hS.1 (by rw [e1]; exact hz), fun q h1 h2 => by rw [e1, hk q (Nat.lt_of_lt_of_le h1 hS.1) (fun z => h2 (hA q (Nat.lt_of_lt_of_le h1 hS.1) z))]; exact hS.2.1 q h1 h2, fun q hq => by
      rcases List.mem_append.mp hq with h | h
      · exact hS.2.2 q h
      · exact hf _ (hL q h)⟩ T' rfl X'
  exact ⟨t2, st t2 a1, b1⟩
theorem WBn.blind {sz : Nat} {av : List Value} : FrameBlind (va_Pc av (WBn G ws sz)) := by
  intro a U g mk q
  obtain ⟨q0, q1, qP, qK, qD, qN⟩ := q
  exact ⟨q0, q1, qP, va_K.moved (u := U) (U := U.calling g mk a) (Vm.Alike.refl U.vm) qK, qD, NX.same (u := U) (U := U.calling g mk a) rfl qN⟩
theorem ws_free {A : Nat → Prop} {H0 H : Heap} {locs : List Loc} (hD : va_D A ws) (hS : va_S A H0 H locs) (hA : ∀ q, H0.size ≤ q → A q) : ∀ q, va_A ws H.size q → A q := by
  intro q hq
  rcases hq with ⟨k, e, hk⟩ | hq
  · exact hD.2 k _ hk
  · exact hA q (Nat.le_trans hS.1 hq)
/-- a constructor of a nest mate -/
theorem NV.callN {M' : eM} {cc' : ByteArray} {Pr : va_W → Prop} {kc' ks' idx a : Nat} {host : String} (hd : decode cc pc = .ok (.invokespecial idx, 3)) (hlk : Cond.methodLinkNest M.1.cls idx M'.1 host ∈ eN) (ho : okC M' cc' 0) (hi : Cond.instanceMethod M'.1 ∈ eT) (hnm : M'.1.name = "<init>") (hrt : M'.2.2.1 = none) (hM : MN G M' cc' kc' ks' [.ref a] ws (fun v w => v = none ∧ Pr w)) (hRm : M'.2.2.2.1 + 1 ≤ M.2.2.2.1 ∧ 8 + (M'.2.1 + 11) + M'.2.2.2.2 ≤ M.2.2.2.2) (hw : (rest.map fun v => v.category).sum ≤ 8) (k : ∀ ws', Pr ws' → NV G M cc X post kc ks ws' (pc + 3) lv rest) : NV G M cc X post (kc + kc') (ks + ks') ws pc lv (.ref a :: rest) := by
  intro p e R s m args below meth c A cells slots Q H locs ls hC hN hX hR hP hD hS hl
  have e1 : cells + (kc + kc') = cells + kc' + kc := by omega
  have e2 : slots + (ks + ks') = slots + ks' + ks := by omega
  rw [e1, e2] at hC hR
  have hb1 := hC.2.2.2.2.2.2.2.2.2.1
  have hb2 := hC.2.2.2.2.2.2.2.2.2.2.1
  have hF := ws_free hD hS hC.2.2.2.2.2.2.1
  have hM2 := hM H.size
  rw [hrt] at hM2
  have hg := lw_goodIn ho.2.1
  rw [hrt] at hg
  refine va_calln (va_runIN (As := []) (rest := rest) (host := host) ⟨hC.1, hC.2.1, hC.2.2.1, hC.2.2.2.1, hC.2.2.2.2.1⟩ hM2 ⟨va_cnB 0 hC.2.2.2.2.1 hg rfl rfl rfl (hC.2.2.2.2.2.2.2.2.2.2.2.1 _ hlk) (hC.2.2.2.2.1 _ ho.1) ⟨ho.2.2.1.1, ho.2.2.1.2, ho.2.2.2⟩ ⟨Nat.le_trans hRm.1 hC.2.2.2.2.2.2.2.1, Nat.le_trans hRm.2 hC.2.2.2.2.2.2.2.2.1⟩, hnm, hC.2.2.2.2.1 _ hi⟩ ⟨WBn.blind, fun U hU hW => ⟨rfl, by rw [hU], by rw [hU]; exact hP, va_K.moved hW.alike hC.2.2.2.2.2.1, hD.weaken (fun _ _ _ _ => trivial), hC.2.2.2.2.2.2.2.2.2.2.2.warm hW⟩⟩ rfl rfl hl.1 rfl (lv_room hw) hd ⟨by omega, by omega⟩) hS (fun q _ hq => hF q hq) hF hF (fun v' w' H1 locs1 hp hP1 hD1 hS1 => ?_)
  obtain ⟨rfl, hp⟩ := hp
  exact k w' hp p e R s m args below meth c A (cells + kc') (slots + ks') Q H1 locs1 ls hC hN hX hR hP1 hD1 hS1 hl
/-- a constructor that all may call -/
theorem NV.callI {M' : eM} {cc' : ByteArray} {Pr : va_W → Prop} {kc' ks' idx a : Nat} (hd : decode cc pc = .ok (.invokespecial idx, 3)) (hlk : Cond.methodLink M.1.cls idx M'.1 ∈ eT) (ho : okC M' cc' 0) (hi : Cond.instanceMethod M'.1 ∈ eT) (hnm : M'.1.name = "<init>") (hrt : M'.2.2.1 = none) (hM : MN G M' cc' kc' ks' [.ref a] ws (fun v w => v = none ∧ Pr w)) (hRm : M'.2.2.2.1 + 1 ≤ M.2.2.2.1 ∧ 8 + (M'.2.1 + 11) + M'.2.2.2.2 ≤ M.2.2.2.2) (hw : (rest.map fun v => v.category).sum ≤ 8) (k : ∀ ws', Pr ws' → NV G M cc X post kc ks ws' (pc + 3) lv rest) : NV G M cc X post (kc + kc') (ks + ks') ws pc lv (.ref a :: rest) := by
  intro p e R s m args below meth c A cells slots Q H locs ls hC hN hX hR hP hD hS hl
  have e1 : cells + (kc + kc') = cells + kc' + kc := by omega
  have e2 : slots + (ks + ks') = slots + ks' + ks := by omega
  rw [e1, e2] at hC hR
  have hb1 := hC.2.2.2.2.2.2.2.2.2.1
  have hb2 := hC.2.2.2.2.2.2.2.2.2.2.1
  have hF := ws_free hD hS hC.2.2.2.2.2.2.1
  have hM2 := hM H.size
  rw [hrt] at hM2
  have hg := lw_goodIn ho.2.1
  rw [hrt] at hg
  refine va_calln (va_runI (As := []) (rest := rest) ⟨hC.1, hC.2.1, hC.2.2.1, hC.2.2.2.1, hC.2.2.2.2.1⟩ hM2 ⟨callB_of 0 hC.2.2.2.2.1 hg rfl rfl rfl (hC.2.2.2.2.1 _ ho.1) (hC.2.2.2.2.1 _ hlk) ⟨ho.2.2.1.1, ho.2.2.1.2, ho.2.2.2⟩ ⟨Nat.le_trans hRm.1 hC.2.2.2.2.2.2.2.1, Nat.le_trans hRm.2 hC.2.2.2.2.2.2.2.2.1⟩, hnm, hC.2.2.2.2.1 _ hi⟩ ⟨WBn.blind, fun U hU hW => ⟨rfl, by rw [hU], by rw [hU]; exact hP, va_K.moved hW.alike hC.2.2.2.2.2.1, hD.weaken (fun _ _ _ _ => trivial), hC.2.2.2.2.2.2.2.2.2.2.2.warm hW⟩⟩ rfl rfl hl.1 rfl (lv_room hw) hd ⟨by omega, by omega⟩) hS (fun q _ hq => hF q hq) hF hF (fun v' w' H1 locs1 hp hP1 hD1 hS1 => ?_)
  obtain ⟨rfl, hp⟩ := hp
  exact k w' hp p e R s m args below meth c A (cells + kc') (slots + ks') Q H1 locs1 ls hC hN hX hR hP1 hD1 hS1 hl
end NVR
