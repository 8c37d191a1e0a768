/-- the tables' words that a call carries along -/
def eT : List Cond := lw_tbl.filter goodWord
/-- the words on private members of nest mates, and on arrays of objects -/
def isNest : Cond → Bool
  | .methodLinkNest _ _ _ _ => true
  | _ => false
def eN : List Cond := lw_tbl.filter isNest
def NX (U : State) : Prop := (∀ w ∈ eN, va_Nw w U) ∧ va_AO "CombedLight$Plate" U ∧ va_AO "CombedLight$Comb" U
theorem NX.warm {s U : State} (hW : s.WarmedH U.vm) (h : NX s) : NX U := by
  refine ⟨fun w hw => ?_, va_AO.moved hW.alike h.2.1, va_AO.moved hW.alike h.2.2⟩
  have h1 := h.1 w hw
  have h2 := (List.mem_filter.mp hw).2
  match w, h1, h2 with
  | .methodLinkNest a i x b, h1, _ => exact va_Nw.warmM hW h1
theorem NX.same {u U : State} (hv : u.vm = U.vm) (h : NX u) : NX U := by
  refine ⟨fun w hw => ?_, va_AO.moved (by rw [hv]; exact Vm.Alike.refl _) h.2.1, va_AO.moved (by rw [hv]; exact Vm.Alike.refl _) h.2.2⟩
  have h1 := h.1 w hw
  have h2 := (List.mem_filter.mp hw).2
  match w, h1, h2 with
  | .methodLinkNest a i x b, h1, _ => exact va_Nw.same rfl hv h1
abbrev eM : Type := MethodName × Nat × Option FieldType × Nat × Nat
/-- a field's link: class number ci, place f among its fields -/
def okF (own : String) (idx ci f : Nat) : Prop := ∃ (C : String) (T : u_T) (N : Nat), vwCl[ci]? = some (C, T, N) ∧ f < N ∧ (∀ w ∈ u_ws C T N, w ∈ eT) ∧ Cond.fieldLink own idx C (T f).2.1 (T f).2.2.1 ∈ eT ∧ (T f).1 = C
def okP (own : String) (idx ci f : Nat) (ty : FieldType) : Prop := ∃ (C : String) (T : u_T) (N : Nat) (ty0 : Nat → FieldType), vwCl[ci]? = some (C, T, N) ∧ f < N ∧ (∀ w ∈ u_ws C T N, w ∈ eT) ∧ Cond.fieldLink own idx C (T f).2.1 (T f).2.2.1 ∈ eT ∧ (T f).1 = C ∧ (∀ k, k < N → parseFieldDescriptor (T k).2.2.1 = some (ty0 k)) ∧ (∀ a, a < N → ∀ b, b < N → a ≠ b → (T a).2.1 ≠ (T b).2.1) ∧ (T f).2.2.2 = false ∧ parseFieldDescriptor (T f).2.2.1 = some ty
/-- what the tables say of a method that is called -/
def okC (M' : eM) (cc' : ByteArray) (a : Nat) : Prop := Cond.initialized M'.1.cls ∈ eT ∧ Cond.code M'.1 cc' M'.2.1 M'.2.2.1 ∈ eT ∧ (M'.1.cls ≠ "java/lang/invoke/MethodHandle" ∧ M'.1.cls ≠ "java/lang/invoke/VarHandle") ∧ (parseMethodDescriptor M'.1.desc).map (fun d => d.parameters.length) = some a
def okV (M' : eM) (cc' : ByteArray) (a ci : Nat) : Prop := okC M' cc' a ∧ Cond.instanceMethod M'.1 ∈ eT ∧ Cond.selects M'.1.cls M'.1 M'.1 ∈ eT ∧ ∃ (T : u_T) (N : Nat), vwCl[ci]? = some (M'.1.cls, T, N)
def okS (M' : eM) (cc' : ByteArray) (a : Nat) : Prop := okC M' cc' a ∧ Cond.static M'.1 ∈ eT
