/-! THE LAYER. The heap of the system by positions: position k lies at the address ad k and holds the cell h k.
EV: from a place in a method's code the method comes to its end, with an answer and a heap of which 'post' holds. MC: a method's contract. -/
abbrev eG : Type := Launch × va_G × (Nat → ClassId)
def tysOf (cs : Nat → ClassId) : List (ClassId × FieldType) := [(cs 0, .int), (cs 1, .long), (cs 2, .boolean), (cs 3, .object "CombedLight$Plate"), (cs 4, .object "CombedLight$Comb")]
def wld (ad : Nat → Nat) (n : Nat) (h : Nat → va_E) : va_W := (List.range n).map (fun k => (ad k, h k))
theorem wld_get {ad : Nat → Nat} {n : Nat} {h : Nat → va_E} {k : Nat} (hk : k < n) : (wld ad n h)[k]? = some (ad k, h k) := by
  simp [wld, hk]
theorem wld_get' {ad : Nat → Nat} {n : Nat} {h : Nat → va_E} {k : Nat} {e : va_E} (hk : k < n) (he : h k = e) : (wld ad n h)[k]? = some (ad k, e) := by
  rw [wld_get hk, he]
theorem wld_set {ad : Nat → Nat} {n : Nat} {h : Nat → va_E} {k : Nat} {e : va_E} : (wld ad n h).set k (ad k, e) = wld ad n (va_up h k e) := by
  apply List.ext_getElem?
  intro i
  by_cases hi : i < n
  · rw [wld_get hi]
    by_cases hk : i = k
    · subst hk
      rw [List.getElem?_set_self (by simpa [wld] using hi)]
      simp [va_up]
    · rw [List.getElem?_set_ne (Ne.symm hk), wld_get hi]
      simp [va_up, hk]
  · rw [List.getElem?_eq_none (by simpa [wld] using hi), List.getElem?_eq_none (by simpa [wld] using hi)]
/-! locals: a list by slots -/
def lget : List (Option Value) → Nat → Option Value
  | [], _ => none
  | o :: _, 0 => o
  | _ :: t, i + 1 => lget t i
def lk : Nat → Option Value → Option Value
  | 0, o => (match o with
    | some (.long _) => none
    | some (.double _) => none
    | o => o)
  | _ + 1, o => o
def lst1 : List (Option Value) → Nat → Value → List (Option Value)
  | [], _, _ => []
  | _ :: t, 0, v => some v :: t
  | o :: t, i + 1, v => lk i o :: lst1 t i v
def lno : List (Option Value) → List (Option Value)
  | [] => []
  | _ :: t => none :: t
def lst2 : List (Option Value) → Nat → Value → List (Option Value)
  | [], _, _ => []
  | _ :: t, 0, v => some v :: lno t
  | o :: t, i + 1, v => lk i o :: lst2 t i v
theorem lk_get {i : Nat} {o : Option Value} {w : Value} (h : lk i o = some w) : o = some w ∧ ¬ (i = 0 ∧ w.category = 2) := by
  cases i with
  | zero =>
    cases o with
    | none => simp [lk] at h
    | some v => cases v <;> simp [lk] at h <;> subst h <;> simp [Value.category]
  | succ i => exact ⟨h, by simp⟩
theorem lget_lst1 : ∀ (lv : List (Option Value)) (i j : Nat) (v w : Value), lget (lst1 lv i v) j = some w → (j = i ∧ w = v) ∨ (j ≠ i ∧ lget lv j = some w ∧ ¬ (j + 1 = i ∧ w.category = 2)) := by
  intro lv
  induction lv with
  | nil => intro i j v w h; simp [lst1, lget] at h
  | cons o t ih =>
    intro i j v w h
    cases i with
    | zero =>
      cases j with
      | zero => simp [lst1, lget] at h; exact Or.inl ⟨rfl, h.symm⟩
      | succ j => exact Or.inr ⟨by omega, h, by omega⟩
    | succ i =>
      cases j with
      | zero =>
        have h1 : lk i o = some w := h
        obtain ⟨h2, h3⟩ := lk_get h1
        exact Or.inr ⟨by omega, h2, fun q => h3 ⟨by omega, q.2⟩⟩
      | succ j =>
        rcases ih i j v w h with ⟨a, b⟩ | ⟨a, b, c⟩
        · exact Or.inl ⟨by omega, b⟩
        · exact Or.inr ⟨by omega, b, fun q => c ⟨by omega, q.2⟩⟩
theorem lget_lst2 : ∀ (lv : List (Option Value)) (i j : Nat) (v w : Value), lget (lst2 lv i v) j = some w → (j = i ∧ w = v) ∨ (j ≠ i ∧ j ≠ i + 1 ∧ lget lv j = some w ∧ ¬ (j + 1 = i ∧ w.category = 2)) := by
  intro lv
  induction lv with
  | nil => intro i j v w h; simp [lst2, lget] at h
  | cons o t ih =>
    intro i j v w h
    cases i with
    | zero =>
      cases j with
      | zero => simp [lst2, lget] at h; exact Or.inl ⟨rfl, h.symm⟩
      | succ j =>
        cases t with
        | nil => simp [lst2, lget, lno] at h
        | cons o2 t2 =>
          cases j with
          | zero => simp [lst2, lget, lno] at h
          | succ j => exact Or.inr ⟨by omega, by omega, h, by omega⟩
    | succ i =>
      cases j with
      | zero =>
        have h1 : lk i o = some w := h
        obtain ⟨h2, h3⟩ := lk_get h1
        exact Or.inr ⟨by omega, by omega, h2, fun q => h3 ⟨by omega, q.2⟩⟩
      | succ j =>
        rcases ih i j v w h with ⟨a, b⟩ | ⟨a, a2, b, c⟩
        · exact Or.inl ⟨by omega, b⟩
        · exact Or.inr ⟨by omega, by omega, b, fun q => c ⟨by omega, q.2⟩⟩
def lvH (ls : Array Slot) (mL : Nat) (lv : List (Option Value)) : Prop := ls.size = mL ∧ lv_wf ls ∧ ∀ (i : Nat) (v : Value), lget lv i = some v → ls[i]? = some (.val v)
def lprs (lv : List (Option Value)) (mL : Nat) : List (Nat × Value) := (List.range mL).filterMap (fun i => (lget lv i).map (fun v => (i, v)))
theorem lprs_mem {lv : List (Option Value)} {mL : Nat} {q : Nat × Value} : q ∈ lprs lv mL ↔ q.1 < mL ∧ lget lv q.1 = some q.2 := by
  obtain ⟨i, v⟩ := q
  simp only [lprs, List.mem_filterMap, List.mem_range, Option.map_eq_some_iff]
  constructor
  · rintro ⟨a, h1, w, h2, h3⟩
    cases h3
    exact ⟨h1, h2⟩
  · rintro ⟨h1, h2⟩
    exact ⟨i, h1, v, h2, rfl⟩
theorem lvH.has {ls : Array Slot} {mL : Nat} {lv : List (Option Value)} (h : lvH ls mL lv) : lv_has ls mL (lprs lv mL) := ⟨h.1, h.2.1, fun q hq => h.2.2 q.1 q.2 (lprs_mem.mp hq).2⟩
theorem lvH.st1 {ls ls' : Array Slot} {mL i : Nat} {v : Value} {lv : List (Option Value)} (h : lvH ls mL lv) (h' : lv_has ls' mL ((i, v) :: (lprs lv mL).filter (fun q => !(q.1 == i) && !(q.1 + 1 == i && q.2.category == 2)))) : lvH ls' mL (lst1 lv i v) := by
  refine ⟨h'.1, h'.2.1, fun j w hj => ?_⟩
  rcases lget_lst1 lv i j v w hj with ⟨rfl, rfl⟩ | ⟨a, b, c⟩
  · exact h'.2.2 (j, w) List.mem_cons_self
  · refine h'.2.2 (j, w) (List.mem_cons_of_mem _ (List.mem_filter.mpr ⟨lprs_mem.mpr ⟨?_, b⟩, ?_⟩))
    · have := (Array.getElem?_eq_some_iff.mp (h.2.2 j w b)).1
      rw [h.1] at this; exact this
    · simp only [Bool.and_eq_true, Bool.not_eq_true', beq_eq_false_iff_ne, Bool.and_eq_false_iff]
      refine ⟨a, ?_⟩
      by_cases hc : j + 1 = i
      · exact Or.inr (fun q => c ⟨hc, q⟩)
      · exact Or.inl hc
theorem lvH.st2 {ls ls' : Array Slot} {mL i : Nat} {v : Value} {lv : List (Option Value)} (h : lvH ls mL lv) (h' : lv_has ls' mL ((i, v) :: (lprs lv mL).filter (fun q => !(q.1 == i) && (!(q.1 == i + 1) && !(q.1 + 1 == i && q.2.category == 2))))) : lvH ls' mL (lst2 lv i v) := by
  refine ⟨h'.1, h'.2.1, fun j w hj => ?_⟩
  rcases lget_lst2 lv i j v w hj with ⟨rfl, rfl⟩ | ⟨a, a2, b, c⟩
  · exact h'.2.2 (j, w) List.mem_cons_self
  · refine h'.2.2 (j, w) (List.mem_cons_of_mem _ (List.mem_filter.mpr ⟨lprs_mem.mpr ⟨?_, b⟩, ?_⟩))
    · have := (Array.getElem?_eq_some_iff.mp (h.2.2 j w b)).1
      rw [h.1] at this; exact this
    · simp only [Bool.and_eq_true, Bool.not_eq_true', beq_eq_false_iff_ne, Bool.and_eq_false_iff]
      refine ⟨a, a2, ?_⟩
      by_cases hc : j + 1 = i
      · exact Or.inr (fun q => c ⟨hc, q⟩)
      · exact Or.inl hc
/-- the locals at a method's entry -/
def linit : List Value → Nat → List (Option Value)
  | [], k => List.replicate k none
  | .long x :: vs, k => some (.long x) :: none :: linit vs (k - 2)
  | .double x :: vs, k => some (.double x) :: none :: linit vs (k - 2)
  | v :: vs, k => some v :: linit vs (k - 1)
theorem lget_rep (k j : Nat) : lget (List.replicate k none) j = none := by
  induction k generalizing j with
  | zero => rfl
  | succ k ih =>
    cases j with
    | zero => rfl
    | succ j => exact ih j
theorem linit_args : ∀ (vs : List Value) (k b j : Nat) (w : Value), lget (linit vs k) j = some w → (b + j, w) ∈ lv_args b vs := by
  intro vs
  induction vs with
  | nil => intro k b j w h; rw [linit, lget_rep] at h; cases h
  | cons v vs ih =>
    intro k b j w h
    have h1 : ∀ (c : Nat), v.category = c → (c = 1 ∨ c = 2) → (c = 1 → lget (some v :: linit vs (k - 1)) j = some w) → (c = 2 → lget (some v :: none :: linit vs (k - 2)) j = some w) → (b + j, w) ∈ lv_args b (v :: vs) := by
      intro c hc h12 g1 g2
      rcases h12 with rfl | rfl
      · have g := g1 rfl
        cases j with
        | zero =>
          cases g
          exact List.mem_cons_self
        | succ j =>
          have := ih (k - 1) (b + 1) j w g
          rw [lv_args, if_neg (by omega)]
          refine List.mem_cons_of_mem _ ?_
          rwa [show b + (j + 1) = b + 1 + j by omega]
      · have g := g2 rfl
        cases j with
        | zero =>
          cases g
          exact List.mem_cons_self
        | succ j =>
          cases j with
          | zero => cases g
          | succ j =>
            have := ih (k - 2) (b + 2) j w g
            rw [lv_args, if_pos hc]
            refine List.mem_cons_of_mem _ ?_
            rwa [show b + (j + 1 + 1) = b + 2 + j by omega]
    cases v with
    | long x => exact h1 2 rfl (Or.inr rfl) (fun q => absurd q (by decide)) (fun _ => h)
    | double x => exact h1 2 rfl (Or.inr rfl) (fun q => absurd q (by decide)) (fun _ => h)
    | _ => exact h1 1 rfl (Or.inl rfl) (fun _ => h) (fun q => absurd q (by decide))
/-! the judgement -/
abbrev eP : Type := Option Value → (Nat → va_E) → Prop
def CX (G : eG) (M : eM) (cc : ByteArray) (p : Program) (R : Room) (s : State) (m : MethodId) (args : Array Value) (c : Code) (A : Nat → Prop) (cells slots : Nat) : Prop :=
  p.tables.exec = Jvm.exec ∧ c.code = cc ∧ c.maxLocals = M.2.1 ∧ s.vm.findClass M.1.cls = some m.cls ∧ (∀ w ∈ eT, w.before args s = true) ∧ va_K G.2.1 vwCl (tysOf G.2.2) s ∧ (∀ q : Nat, s.heap.size ≤ q → A q) ∧ M.2.2.2.1 ≤ R.frames ∧ M.2.2.2.2 ≤ R.locals ∧ cells ≤ R.cells ∧ slots ≤ R.slots ∧ NX s
def retI : Option Value → Instr
  | none => .return_
  | some (.int _) => .ireturn
  | some (.long _) => .lreturn
  | some _ => .areturn
def retOK : Option FieldType → Option Value → Prop
  | none, none => True
  | some .int, some (.int _) => True
  | some .boolean, some (.int x) => narrow .boolean (.int x) = .int x
  | some .long, some (.long _) => True
  | some (.object _), some (.ref _) => True
  | some (.object _), some .null => True
  | _, _ => False
def XX (X : Option (Nat × Nat × (Nat → Int32))) (s : State) (A : Nat → Prop) : Prop := ∀ q, X = some q → va_X q.1 q.2.1 q.2.2 s s.heap ∧ q.1 < s.heap.size ∧ ¬ A q.1
def RT (G : eG) (M : eM) (cc : ByteArray) (ad : Nat → Nat) (n : Nat) (post : eP) (p : Program) (e : Env) (R : Room) (s : State) (m : MethodId) (args : Array Value) (below : List Frame) (meth : Method) (c : Code) (A : Nat → Prop) (cells slots : Nat) (Q : State → Prop) : Prop :=
  ∀ (v : Option Value) (h : Nat → va_E) (H : Heap) (locs : List Loc) (pc : Nat) (ls : Array Slot), post v h → va_P G.2.1 vwCl (wld ad n h) H → va_D A (wld ad n h) → va_S A s.heap H locs → decode cc pc = .ok (retI v, 1) → retOK M.2.2.1 v → W p G.1 e R s m args below meth c H locs cells slots Q (F0 m pc ls v.toList)
def EV (G : eG) (M : eM) (cc : ByteArray) (X : Option (Nat × Nat × (Nat → Int32))) (ad : Nat → Nat) (n : Nat) (post : eP) (pc : Nat) (lv : List (Option Value)) (st : List Value) (h : Nat → va_E) : Prop :=
  ∀ (p : Program) (e : Env) (R : Room) (s : State) (m : MethodId) (args : Array Value) (below : List Frame) (meth : Method) (c : Code) (A : Nat → Prop) (cells slots : Nat) (Q : State → Prop) (H : Heap) (locs : List Loc) (ls : Array Slot),
    CX G M cc p R s m args c A cells slots → XX X s A → RT G M cc ad n post p e R s m args below meth c A cells slots Q → va_P G.2.1 vwCl (wld ad n h) H → va_D A (wld ad n h) → va_S A s.heap H locs → lvH ls M.2.1 lv → W p G.1 e R s m args below meth c H locs cells slots Q (F0 m pc ls st)
def WB (G : eG) (ad : Nat → Nat) (n : Nat) (h : Nat → va_E) (sz : Nat) : State → Prop := fun U => U.heap.size = sz ∧ va_P G.2.1 vwCl (wld ad n h) U.heap ∧ va_K G.2.1 vwCl (tysOf G.2.2) U ∧ va_D (fun _ => True) (wld ad n h) ∧ NX U
def QM (G : eG) (ad : Nat → Nat) (n : Nat) (post : eP) (A : Nat → Prop) : Array Value → State → Outcome → State → Prop := fun _ st oc t => (∃ (v : Option Value) (h' : Nat → va_E), oc = .returned v ∧ post v h' ∧ va_P G.2.1 vwCl (wld ad n h') t.heap ∧ va_K G.2.1 vwCl (tysOf G.2.2) t ∧ va_D A (wld ad n h')) ∧ va_F A st t
def MC (G : eG) (M : eM) (cc : ByteArray) (ad : Nat → Nat) (n : Nat) (av : List Value) (h : Nat → va_E) (post : eP) : Prop :=
  ∀ sz : Nat, Met G.1 M.1 (.code M.1 cc M.2.1 M.2.2.1 :: eT) { frames := M.2.2.2.1, cells := 0, slots := 0, locals := M.2.2.2.2 } (va_Pc av (WB G ad n h sz)) (QM G ad n post (va_A (wld ad n h) sz)) 0 0 (va_A (wld ad n h) sz)
theorem MC.mono {G : eG} {M : eM} {cc : ByteArray} {ad : Nat → Nat} {n : Nat} {av : List Value} {h : Nat → va_E} {post post' : eP} (hM : MC G M cc ad n av h post) (hp : ∀ v h', post v h' → post' v h') : MC G M cc ad n av h post' := by
  intro sz
  exact MetFree.mono (hM sz) (fun _ _ q => q) (fun _ _ _ _ _ q => q) (fun a st o t _ q => ⟨⟨by obtain ⟨⟨⟨v, h', e1, e2, e3⟩, -⟩, -⟩ := q; exact ⟨v, h', e1, hp v h' e2, e3⟩, q.1.2⟩, q.2⟩)

theorem MC.of {G : eG} {M : eM} {cc : ByteArray} {ad : Nat → Nat} {n : Nat} {av : List Value} {h : Nat → va_E} {post : eP} {lv : List (Option Value)} (hy : plainFor M.1 = true) (hlen : (lg_sl av).length ≤ M.2.1) (hlv : linit av M.2.1 = lv) (k : EV G M cc none ad n post 0 lv [] h) : MC G M cc ad n av h post := by
  intro sz
  refine va_MetF (cc := cc) (maxL := M.2.1) (ret := M.2.2.1) hy rfl ?_
  intro p e s m args below meth c s₁ B hml hv
  obtain ⟨rfl, hsz, hP, hK, hD0, hN⟩ := hv
  have hts := atoms_spec (ws := .code M.1 cc M.2.1 M.2.2.1 :: eT) B.pre
  have hown : s.vm.findClass M.1.cls = some m.cls := findClass_of_methodNamed B.named
  have hlocks := B.notSynchronized
  subst hsz
  have hD := hD0.self (sz := s.heap.size)
  have hl := lv_entry av (n := M.2.1) hlen
  rw [lg_entry_eq]
  have hl2 : lvH ((lg_sl av ++ List.replicate (M.2.1 - (lg_sl av).length) Slot.unset).toArray) M.2.1 lv := by
    refine ⟨hl.1, hl.2.1, fun i v hi => ?_⟩
    rw [← hlv] at hi
    have := linit_args av M.2.1 0 i v hi
    rw [Nat.zero_add] at this
    exact hl.2.2 (i, v) this
  generalize (lg_sl av ++ List.replicate (M.2.1 - (lg_sl av).length) Slot.unset).toArray = ls at hl2 ⊢
  refine k p e _ s m _ below meth c (va_A (wld ad n h) s.heap.size) 0 0 _ s.heap [] ls ⟨B.exec, B.bytes, hml, hown, fun w hw => hts w (List.mem_cons_of_mem _ hw), hK, fun q hq => Or.inr hq, Nat.le_refl _, Nat.le_refl _, Nat.zero_le _, Nat.zero_le _, hN⟩ (fun q hq => by cases hq) ?_ hP hD va_S.rf hl2
  intro v h' H locs pc ls' hpost hP' hD' hS' hdec hok
  have hq : ∀ t : State, t.heap = H → s.WarmedH t.vm → QM G ad n post (va_A (wld ad n h) s.heap.size) av.toArray s (.returned v) t := fun t ht hW => ⟨⟨v, h', rfl, hpost, by rw [ht]; exact hP', va_K.moved hW.alike hK, hD'⟩, hS'.F ht⟩
  have hr := B.returns
  match hret : M.2.2.1, v, hok with
  | none, none, _ => exact W.vret B.exec B.bytes (hr.trans hret) hq hS'.2.2 hdec hlocks
  | some .int, some (.int x), _ => exact W.iret B.exec B.bytes (hr.trans hret) hq hS'.2.2 hdec hlocks
  | some .boolean, some (.int x), hn => exact W.zret B.exec B.bytes (hr.trans hret) hn hq hS'.2.2 hdec hlocks
  | some .long, some (.long x), _ => exact W.lret B.exec B.bytes (hr.trans hret) hq hS'.2.2 hdec hlocks
  | some (.object C), some (.ref x), _ => exact W.aret B.exec B.bytes (hr.trans hret) (Or.inl ⟨C, rfl⟩) (Or.inr ⟨x, rfl⟩) hq hS'.2.2 hdec hlocks
  | some (.object C), some .null, _ => exact W.aret B.exec B.bytes (hr.trans hret) (Or.inl ⟨C, rfl⟩) (Or.inl rfl) hq hS'.2.2 hdec hlocks
section EVR
variable {G : eG} {M : eM} {cc : ByteArray} {X : Option (Nat × Nat × (Nat → Int32))} {ad : Nat → Nat} {n : Nat} {post : eP} {pc : Nat} {lv : List (Option Value)} {rest : List Value} {h : Nat → va_E}
theorem EV.eq {pc' : Nat} {lv' : List (Option Value)} {st st' : List Value} {h' : Nat → va_E} (h1 : pc = pc') (h2 : lv = lv') (h3 : st = st') (h4 : h = h') (k : EV G M cc X ad n post pc' lv' st' h') : EV G M cc X ad n post pc lv st h := by
  subst h1; subst h2; subst h3; subst h4; exact k
theorem EV.ret {v : Option Value} (hd : decode cc pc = .ok (retI v, 1)) (hok : retOK M.2.2.1 v) (hp : post v h) : EV G M cc X ad n post pc lv v.toList h := by
  intro p e R s m args below meth c A cells slots Q H locs ls hC hX hR hP hD hS hl
  exact hR v h H locs pc ls hp hP hD hS hd hok
theorem EV.iret {x : Int32} (hd : decode cc pc = .ok (.ireturn, 1)) (hok : retOK M.2.2.1 (some (.int x))) (hp : post (some (.int x)) h) : EV G M cc X ad n post pc lv [.int x] h := EV.ret (v := some (.int x)) hd hok hp
theorem EV.lret {x : Int64} (hd : decode cc pc = .ok (.lreturn, 1)) (hok : retOK M.2.2.1 (some (.long x))) (hp : post (some (.long x)) h) : EV G M cc X ad n post pc lv [.long x] h := EV.ret (v := some (.long x)) hd hok hp
theorem EV.rret {x : Nat} (hd : decode cc pc = .ok (.areturn, 1)) (hok : retOK M.2.2.1 (some (.ref x))) (hp : post (some (.ref x)) h) : EV G M cc X ad n post pc lv [.ref x] h := EV.ret (v := some (.ref x)) hd hok hp
theorem EV.nret (hd : decode cc pc = .ok (.areturn, 1)) (hok : retOK M.2.2.1 (some .null)) (hp : post (some .null) h) : EV G M cc X ad n post pc lv [.null] h := EV.ret (v := some .null) hd hok hp
theorem EV.vret (hd : decode cc pc = .ok (.return_, 1)) (hok : retOK M.2.2.1 none) (hp : post none h) : EV G M cc X ad n post pc lv [] h := EV.ret (v := none) hd hok hp
theorem EV.topi {x y : Int32} (e : x = y) (k : EV G M cc X ad n post pc lv (.int y :: rest) h) : EV G M cc X ad n post pc lv (.int x :: rest) h := by subst e; exact k
theorem EV.topl {x y : Int64} (e : x = y) (k : EV G M cc X ad n post pc lv (.long y :: rest) h) : EV G M cc X ad n post pc lv (.long x :: rest) h := by subst e; exact k
theorem EV.topi2 {x y x2 y2 : Int32} (e : x = y) (e2 : x2 = y2) (k : EV G M cc X ad n post pc lv (.int y :: .int y2 :: rest) h) : EV G M cc X ad n post pc lv (.int x :: .int x2 :: rest) h := by subst e; subst e2; exact k
theorem EV.heap {h' : Nat → va_E} (e : h = h') (k : EV G M cc X ad n post pc lv rest h') : EV G M cc X ad n post pc lv rest h := by subst e; exact k

theorem EV.iadd {x y : Int32} (hd : decode cc pc = .ok (.iadd, 1)) (k : EV G M cc X ad n post (pc + 1) lv (.int (x + y) :: rest) h) : EV G M cc X ad n post pc lv (.int y :: .int x :: rest) h := by
  intro p e R s m args below meth c A cells slots Q H locs ls hC hX hR hP hD hS hl
  exact lv_iadd hC.1 hC.2.1 hd (k p e R s m args below meth c A cells slots Q H locs ls hC hX hR hP hD hS hl)
theorem EV.isub {x y : Int32} (hd : decode cc pc = .ok (.isub, 1)) (k : EV G M cc X ad n post (pc + 1) lv (.int (x - y) :: rest) h) : EV G M cc X ad n post pc lv (.int y :: .int x :: rest) h := by
  intro p e R s m args below meth c A cells slots Q H locs ls hC hX hR hP hD hS hl
  exact lv_isub hC.1 hC.2.1 hd (k p e R s m args below meth c A cells slots Q H locs ls hC hX hR hP hD hS hl)
theorem EV.imul {x y : Int32} (hd : decode cc pc = .ok (.imul, 1)) (k : EV G M cc X ad n post (pc + 1) lv (.int (x * y) :: rest) h) : EV G M cc X ad n post pc lv (.int y :: .int x :: rest) h := by
  intro p e R s m args below meth c A cells slots Q H locs ls hC hX hR hP hD hS hl
  exact lv_imul hC.1 hC.2.1 hd (k p e R s m args below meth c A cells slots Q H locs ls hC hX hR hP hD hS hl)
theorem EV.iand {x y : Int32} (hd : decode cc pc = .ok (.iand, 1)) (k : EV G M cc X ad n post (pc + 1) lv (.int (x &&& y) :: rest) h) : EV G M cc X ad n post pc lv (.int y :: .int x :: rest) h := by
  intro p e R s m args below meth c A cells slots Q H locs ls hC hX hR hP hD hS hl
  exact lv_iand hC.1 hC.2.1 hd (k p e R s m args below meth c A cells slots Q H locs ls hC hX hR hP hD hS hl)
theorem EV.ixor {x y : Int32} (hd : decode cc pc = .ok (.ixor, 1)) (k : EV G M cc X ad n post (pc + 1) lv (.int (x ^^^ y) :: rest) h) : EV G M cc X ad n post pc lv (.int y :: .int x :: rest) h := by
  intro p e R s m args below meth c A cells slots Q H locs ls hC hX hR hP hD hS hl
  exact lv_ixor hC.1 hC.2.1 hd (k p e R s m args below meth c A cells slots Q H locs ls hC hX hR hP hD hS hl)
theorem EV.ladd {x y : Int64} (hd : decode cc pc = .ok (.ladd, 1)) (k : EV G M cc X ad n post (pc + 1) lv (.long (x + y) :: rest) h) : EV G M cc X ad n post pc lv (.long y :: .long x :: rest) h := by
  intro p e R s m args below meth c A cells slots Q H locs ls hC hX hR hP hD hS hl
  exact lv_ladd hC.1 hC.2.1 hd (k p e R s m args below meth c A cells slots Q H locs ls hC hX hR hP hD hS hl)
theorem EV.lsub {x y : Int64} (hd : decode cc pc = .ok (.lsub, 1)) (k : EV G M cc X ad n post (pc + 1) lv (.long (x - y) :: rest) h) : EV G M cc X ad n post pc lv (.long y :: .long x :: rest) h := by
  intro p e R s m args below meth c A cells slots Q H locs ls hC hX hR hP hD hS hl
  exact lv_lsub hC.1 hC.2.1 hd (k p e R s m args below meth c A cells slots Q H locs ls hC hX hR hP hD hS hl)
theorem EV.lmul {x y : Int64} (hd : decode cc pc = .ok (.lmul, 1)) (k : EV G M cc X ad n post (pc + 1) lv (.long (x * y) :: rest) h) : EV G M cc X ad n post pc lv (.long y :: .long x :: rest) h := by
  intro p e R s m args below meth c A cells slots Q H locs ls hC hX hR hP hD hS hl
  exact lv_lmul hC.1 hC.2.1 hd (k p e R s m args below meth c A cells slots Q H locs ls hC hX hR hP hD hS hl)
theorem EV.land {x y : Int64} (hd : decode cc pc = .ok (.land, 1)) (k : EV G M cc X ad n post (pc + 1) lv (.long (x &&& y) :: rest) h) : EV G M cc X ad n post pc lv (.long y :: .long x :: rest) h := by
  intro p e R s m args below meth c A cells slots Q H locs ls hC hX hR hP hD hS hl
  exact lv_land hC.1 hC.2.1 hd (k p e R s m args below meth c A cells slots Q H locs ls hC hX hR hP hD hS hl)
theorem EV.lor {x y : Int64} (hd : decode cc pc = .ok (.lor, 1)) (k : EV G M cc X ad n post (pc + 1) lv (.long (x ||| y) :: rest) h) : EV G M cc X ad n post pc lv (.long y :: .long x :: rest) h := by
  intro p e R s m args below meth c A cells slots Q H locs ls hC hX hR hP hD hS hl
  exact lv_lor hC.1 hC.2.1 hd (k p e R s m args below meth c A cells slots Q H locs ls hC hX hR hP hD hS hl)
theorem EV.lxor {x y : Int64} (hd : decode cc pc = .ok (.lxor, 1)) (k : EV G M cc X ad n post (pc + 1) lv (.long (x ^^^ y) :: rest) h) : EV G M cc X ad n post pc lv (.long y :: .long x :: rest) h := by
  intro p e R s m args below meth c A cells slots Q H locs ls hC hX hR hP hD hS hl
  exact lv_lxor hC.1 hC.2.1 hd (k p e R s m args below meth c A cells slots Q H locs ls hC hX hR hP hD hS hl)
theorem EV.idiv {x y : Int32} (hd : decode cc pc = .ok (.idiv, 1)) (hne : ¬ y = 0) (k : EV G M cc X ad n post (pc + 1) lv (.int (x / y) :: rest) h) : EV G M cc X ad n post pc lv (.int y :: .int x :: rest) h := by
  intro p e R s m args below meth c A cells slots Q H locs ls hC hX hR hP hD hS hl
  exact lv_idiv hC.1 hC.2.1 hd hne (k p e R s m args below meth c A cells slots Q H locs ls hC hX hR hP hD hS hl)
theorem EV.ldiv {x y : Int64} (hd : decode cc pc = .ok (.ldiv, 1)) (hne : ¬ y = 0) (k : EV G M cc X ad n post (pc + 1) lv (.long (x / y) :: rest) h) : EV G M cc X ad n post pc lv (.long y :: .long x :: rest) h := by
  intro p e R s m args below meth c A cells slots Q H locs ls hC hX hR hP hD hS hl
  exact lv_ldiv hC.1 hC.2.1 hd hne (k p e R s m args below meth c A cells slots Q H locs ls hC hX hR hP hD hS hl)
theorem EV.lrem {x y : Int64} (hd : decode cc pc = .ok (.lrem, 1)) (hne : ¬ y = 0) (k : EV G M cc X ad n post (pc + 1) lv (.long (x - x / y * y) :: rest) h) : EV G M cc X ad n post pc lv (.long y :: .long x :: rest) h := by
  intro p e R s m args below meth c A cells slots Q H locs ls hC hX hR hP hD hS hl
  exact lv_lrem hC.1 hC.2.1 hd hne (k p e R s m args below meth c A cells slots Q H locs ls hC hX hR hP hD hS hl)
theorem EV.ineg {x : Int32} (hd : decode cc pc = .ok (.ineg, 1)) (k : EV G M cc X ad n post (pc + 1) lv (.int (-x) :: rest) h) : EV G M cc X ad n post pc lv (.int x :: rest) h := by
  intro p e R s m args below meth c A cells slots Q H locs ls hC hX hR hP hD hS hl
  exact lv_ineg hC.1 hC.2.1 hd (k p e R s m args below meth c A cells slots Q H locs ls hC hX hR hP hD hS hl)
theorem EV.lneg {x : Int64} (hd : decode cc pc = .ok (.lneg, 1)) (k : EV G M cc X ad n post (pc + 1) lv (.long (-x) :: rest) h) : EV G M cc X ad n post pc lv (.long x :: rest) h := by
  intro p e R s m args below meth c A cells slots Q H locs ls hC hX hR hP hD hS hl
  exact lv_lneg hC.1 hC.2.1 hd (k p e R s m args below meth c A cells slots Q H locs ls hC hX hR hP hD hS hl)
theorem EV.lshl {x : Int64} {y : Int32} (hd : decode cc pc = .ok (.lshl, 1)) (k : EV G M cc X ad n post (pc + 1) lv (.long (x <<< (y.toInt64 &&& 63)) :: rest) h) : EV G M cc X ad n post pc lv (.int y :: .long x :: rest) h := by
  intro p e R s m args below meth c A cells slots Q H locs ls hC hX hR hP hD hS hl
  exact lv_lshl hC.1 hC.2.1 hd rfl (k p e R s m args below meth c A cells slots Q H locs ls hC hX hR hP hD hS hl)
theorem EV.i2l {x : Int32} (hd : decode cc pc = .ok (.i2l, 1)) (k : EV G M cc X ad n post (pc + 1) lv (.long x.toInt64 :: rest) h) : EV G M cc X ad n post pc lv (.int x :: rest) h := by
  intro p e R s m args below meth c A cells slots Q H locs ls hC hX hR hP hD hS hl
  exact lv_i2l hC.1 hC.2.1 hd rfl (k p e R s m args below meth c A cells slots Q H locs ls hC hX hR hP hD hS hl)
theorem EV.l2i {x : Int64} (hd : decode cc pc = .ok (.l2i, 1)) (k : EV G M cc X ad n post (pc + 1) lv (.int x.toInt32 :: rest) h) : EV G M cc X ad n post pc lv (.long x :: rest) h := by
  intro p e R s m args below meth c A cells slots Q H locs ls hC hX hR hP hD hS hl
  exact lv_l2i hC.1 hC.2.1 hd rfl (k p e R s m args below meth c A cells slots Q H locs ls hC hX hR hP hD hS hl)
theorem EV.i2b {x : Int32} (hd : decode cc pc = .ok (.i2b, 1)) (k : EV G M cc X ad n post (pc + 1) lv (.int x.toInt8.toInt32 :: rest) h) : EV G M cc X ad n post pc lv (.int x :: rest) h := by
  intro p e R s m args below meth c A cells slots Q H locs ls hC hX hR hP hD hS hl
  exact lv_i2b hC.1 hC.2.1 hd rfl (k p e R s m args below meth c A cells slots Q H locs ls hC hX hR hP hD hS hl)
theorem EV.i2s {x : Int32} (hd : decode cc pc = .ok (.i2s, 1)) (k : EV G M cc X ad n post (pc + 1) lv (.int x.toInt16.toInt32 :: rest) h) : EV G M cc X ad n post pc lv (.int x :: rest) h := by
  intro p e R s m args below meth c A cells slots Q H locs ls hC hX hR hP hD hS hl
  exact lv_i2s hC.1 hC.2.1 hd rfl (k p e R s m args below meth c A cells slots Q H locs ls hC hX hR hP hD hS hl)
theorem EV.iconst {a : Int} {v : Int32} (hd : decode cc pc = .ok (.iconst a, 1)) (hv : Int32.ofInt a = v) (k : EV G M cc X ad n post (pc + 1) lv (.int v :: rest) h) : EV G M cc X ad n post pc lv rest h := by
  intro p e R s m args below meth c A cells slots Q H locs ls hC hX hR hP hD hS hl
  exact lv_iconst hC.1 hC.2.1 hd hv (k p e R s m args below meth c A cells slots Q H locs ls hC hX hR hP hD hS hl)
theorem EV.bipush {a : Int} {v : Int32} (hd : decode cc pc = .ok (.bipush a, 2)) (hv : (Int8.ofInt a).toInt32 = v) (k : EV G M cc X ad n post (pc + 2) lv (.int v :: rest) h) : EV G M cc X ad n post pc lv rest h := by
  intro p e R s m args below meth c A cells slots Q H locs ls hC hX hR hP hD hS hl
  exact lv_bipush hC.1 hC.2.1 hd hv (k p e R s m args below meth c A cells slots Q H locs ls hC hX hR hP hD hS hl)
theorem EV.sipush {a : Int} {v : Int32} (hd : decode cc pc = .ok (.sipush a, 3)) (hv : (Int16.ofInt a).toInt32 = v) (k : EV G M cc X ad n post (pc + 3) lv (.int v :: rest) h) : EV G M cc X ad n post pc lv rest h := by
  intro p e R s m args below meth c A cells slots Q H locs ls hC hX hR hP hD hS hl
  exact lv_sipush hC.1 hC.2.1 hd hv (k p e R s m args below meth c A cells slots Q H locs ls hC hX hR hP hD hS hl)
theorem EV.lconst {a : Fin 2} {v : Int64} (hd : decode cc pc = .ok (.lconst a, 1)) (hv : Int64.ofNat (a : Nat) = v) (k : EV G M cc X ad n post (pc + 1) lv (.long v :: rest) h) : EV G M cc X ad n post pc lv rest h := by
  intro p e R s m args below meth c A cells slots Q H locs ls hC hX hR hP hD hS hl
  exact lv_lconst hC.1 hC.2.1 hd hv (k p e R s m args below meth c A cells slots Q H locs ls hC hX hR hP hD hS hl)
theorem EV.null  (hd : decode cc pc = .ok (.aconst_null, 1)) (k : EV G M cc X ad n post (pc + 1) lv (.null :: rest) h) : EV G M cc X ad n post pc lv rest h := by
  intro p e R s m args below meth c A cells slots Q H locs ls hC hX hR hP hD hS hl
  exact lv_null hC.1 hC.2.1 hd (k p e R s m args below meth c A cells slots Q H locs ls hC hX hR hP hD hS hl)
theorem EV.dup {v : Value} (hd : decode cc pc = .ok (.dup, 1)) (hv : v.category = 1) (k : EV G M cc X ad n post (pc + 1) lv (v :: v :: rest) h) : EV G M cc X ad n post pc lv (v :: rest) h := by
  intro p e R s m args below meth c A cells slots Q H locs ls hC hX hR hP hD hS hl
  exact lv_dup hC.1 hC.2.1 hd hv (k p e R s m args below meth c A cells slots Q H locs ls hC hX hR hP hD hS hl)
theorem EV.dup2i {v w : Value} (hd : decode cc pc = .ok (.dup2, 1)) (hv : v.category = 1) (hw : w.category = 1) (k : EV G M cc X ad n post (pc + 1) lv (v :: w :: v :: w :: rest) h) : EV G M cc X ad n post pc lv (v :: w :: rest) h := by
  intro p e R s m args below meth c A cells slots Q H locs ls hC hX hR hP hD hS hl
  exact lv_dup2_11 hC.1 hC.2.1 hd hv hw (k p e R s m args below meth c A cells slots Q H locs ls hC hX hR hP hD hS hl)
theorem EV.dup2l {v : Value} (hd : decode cc pc = .ok (.dup2, 1)) (hv : v.category = 2) (k : EV G M cc X ad n post (pc + 1) lv (v :: v :: rest) h) : EV G M cc X ad n post pc lv (v :: rest) h := by
  intro p e R s m args below meth c A cells slots Q H locs ls hC hX hR hP hD hS hl
  exact lv_dup2_2 hC.1 hC.2.1 hd hv (k p e R s m args below meth c A cells slots Q H locs ls hC hX hR hP hD hS hl)
theorem EV.ldc {idx : Nat} {v : Int32} (hd : decode cc pc = .ok (.ldc idx, 2)) (hw : Cond.constant M.1.cls idx v ∈ eT) (k : EV G M cc X ad n post (pc + 2) lv (.int v :: rest) h) : EV G M cc X ad n post pc lv rest h := by
  intro p e R s m args below meth c A cells slots Q H locs ls hC hX hR hP hD hS hl
  exact lv_ldc hC.1 hC.2.1 hC.2.2.2.1 (hC.2.2.2.2.1 _ hw) hd (k p e R s m args below meth c A cells slots Q H locs ls hC hX hR hP hD hS hl)
theorem EV.ldc2 {idx : Nat} {v : Int64} (hd : decode cc pc = .ok (.ldc2_w idx, 3)) (hw : Cond.constantLong M.1.cls idx v ∈ eT) (k : EV G M cc X ad n post (pc + 3) lv (.long v :: rest) h) : EV G M cc X ad n post pc lv rest h := by
  intro p e R s m args below meth c A cells slots Q H locs ls hC hX hR hP hD hS hl
  exact lv_ldc2 hC.1 hC.2.1 hC.2.2.2.1 (hC.2.2.2.2.1 _ hw) hd (k p e R s m args below meth c A cells slots Q H locs ls hC hX hR hP hD hS hl)
theorem EV.iload {i : Nat} {x : Int32} (hd : decode cc pc = .ok (.iload i, 2)) (hv : lget lv i = some (.int x)) (k : EV G M cc X ad n post (pc + 2) lv (.int x :: rest) h) : EV G M cc X ad n post pc lv rest h := by
  intro p e R s m args below meth c A cells slots Q H locs ls hC hX hR hP hD hS hl
  exact lv_iload hC.1 hC.2.1 hd (hl.2.2 i _ hv) (k p e R s m args below meth c A cells slots Q H locs ls hC hX hR hP hD hS hl)
theorem EV.iload_n {i : Fin 4} {x : Int32} (hd : decode cc pc = .ok (.iload_n i, 1)) (hv : lget lv (i : Nat) = some (.int x)) (k : EV G M cc X ad n post (pc + 1) lv (.int x :: rest) h) : EV G M cc X ad n post pc lv rest h := by
  intro p e R s m args below meth c A cells slots Q H locs ls hC hX hR hP hD hS hl
  exact lv_iload_n hC.1 hC.2.1 hd rfl (hl.2.2 _ _ hv) (k p e R s m args below meth c A cells slots Q H locs ls hC hX hR hP hD hS hl)
theorem EV.lload {i : Nat} {x : Int64} (hd : decode cc pc = .ok (.lload i, 2)) (hv : lget lv i = some (.long x)) (k : EV G M cc X ad n post (pc + 2) lv (.long x :: rest) h) : EV G M cc X ad n post pc lv rest h := by
  intro p e R s m args below meth c A cells slots Q H locs ls hC hX hR hP hD hS hl
  exact lv_lload hC.1 hC.2.1 hd (hl.2.2 i _ hv) (k p e R s m args below meth c A cells slots Q H locs ls hC hX hR hP hD hS hl)
theorem EV.lload_n {i : Fin 4} {x : Int64} (hd : decode cc pc = .ok (.lload_n i, 1)) (hv : lget lv (i : Nat) = some (.long x)) (k : EV G M cc X ad n post (pc + 1) lv (.long x :: rest) h) : EV G M cc X ad n post pc lv rest h := by
  intro p e R s m args below meth c A cells slots Q H locs ls hC hX hR hP hD hS hl
  exact lv_lload_n hC.1 hC.2.1 hd rfl (hl.2.2 _ _ hv) (k p e R s m args below meth c A cells slots Q H locs ls hC hX hR hP hD hS hl)
theorem EV.aload {i : Nat} {x : Nat} (hd : decode cc pc = .ok (.aload i, 2)) (hv : lget lv i = some (.ref x)) (k : EV G M cc X ad n post (pc + 2) lv (.ref x :: rest) h) : EV G M cc X ad n post pc lv rest h := by
  intro p e R s m args below meth c A cells slots Q H locs ls hC hX hR hP hD hS hl
  exact lv_aload hC.1 hC.2.1 hd (hl.2.2 i _ hv) (k p e R s m args below meth c A cells slots Q H locs ls hC hX hR hP hD hS hl)
theorem EV.aload_n {i : Fin 4} {x : Nat} (hd : decode cc pc = .ok (.aload_n i, 1)) (hv : lget lv (i : Nat) = some (.ref x)) (k : EV G M cc X ad n post (pc + 1) lv (.ref x :: rest) h) : EV G M cc X ad n post pc lv rest h := by
  intro p e R s m args below meth c A cells slots Q H locs ls hC hX hR hP hD hS hl
  exact lv_aload_n hC.1 hC.2.1 hd rfl (hl.2.2 _ _ hv) (k p e R s m args below meth c A cells slots Q H locs ls hC hX hR hP hD hS hl)
theorem EV.aloadN {i : Nat}  (hd : decode cc pc = .ok (.aload i, 2)) (hv : lget lv i = some (.null)) (k : EV G M cc X ad n post (pc + 2) lv (.null :: rest) h) : EV G M cc X ad n post pc lv rest h := by
  intro p e R s m args below meth c A cells slots Q H locs ls hC hX hR hP hD hS hl
  exact lv_aloadN hC.1 hC.2.1 hd (hl.2.2 i _ hv) (k p e R s m args below meth c A cells slots Q H locs ls hC hX hR hP hD hS hl)
theorem EV.aloadN_n {i : Fin 4}  (hd : decode cc pc = .ok (.aload_n i, 1)) (hv : lget lv (i : Nat) = some (.null)) (k : EV G M cc X ad n post (pc + 1) lv (.null :: rest) h) : EV G M cc X ad n post pc lv rest h := by
  intro p e R s m args below meth c A cells slots Q H locs ls hC hX hR hP hD hS hl
  exact lv_aload_nN hC.1 hC.2.1 hd rfl (hl.2.2 _ _ hv) (k p e R s m args below meth c A cells slots Q H locs ls hC hX hR hP hD hS hl)
theorem EV.istore {i : Nat} {x : Int32} {lv' : List (Option Value)} (hd : decode cc pc = .ok (.istore i, 2)) (hn : i < M.2.1) (hv : lst1 lv i (.int x) = lv') (k : EV G M cc X ad n post (pc + 2) lv' rest h) : EV G M cc X ad n post pc lv (.int x :: rest) h := by
  intro p e R s m args below meth c A cells slots Q H locs ls hC hX hR hP hD hS hl
  subst hv
  exact lv_istore hC.1 hC.2.1 hd hl.has hn rfl (fun ls' hl' => (k p e R s m args below meth c A cells slots Q H locs ls' hC hX hR hP hD hS (hl.st1 hl')))
theorem EV.istore_n (i : Nat) {i0 : Fin 4} {x : Int32} {lv' : List (Option Value)} (hd : decode cc pc = .ok (.istore_n i0, 1)) (hi : (i0 : Nat) = i) (hn : i < M.2.1) (hv : lst1 lv i (.int x) = lv') (k : EV G M cc X ad n post (pc + 1) lv' rest h) : EV G M cc X ad n post pc lv (.int x :: rest) h := by
  intro p e R s m args below meth c A cells slots Q H locs ls hC hX hR hP hD hS hl
  subst hv
  exact lv_istore_n hC.1 hC.2.1 hd hi hl.has hn rfl (fun ls' hl' => (k p e R s m args below meth c A cells slots Q H locs ls' hC hX hR hP hD hS (hl.st1 hl')))
theorem EV.lstore {i : Nat} {x : Int64} {lv' : List (Option Value)} (hd : decode cc pc = .ok (.lstore i, 2)) (hn : i + 1 < M.2.1) (hv : lst2 lv i (.long x) = lv') (k : EV G M cc X ad n post (pc + 2) lv' rest h) : EV G M cc X ad n post pc lv (.long x :: rest) h := by
  intro p e R s m args below meth c A cells slots Q H locs ls hC hX hR hP hD hS hl
  subst hv
  exact lv_lstore hC.1 hC.2.1 hd hl.has hn rfl (fun ls' hl' => (k p e R s m args below meth c A cells slots Q H locs ls' hC hX hR hP hD hS (hl.st2 hl')))
theorem EV.lstore_n (i : Nat) {i0 : Fin 4} {x : Int64} {lv' : List (Option Value)} (hd : decode cc pc = .ok (.lstore_n i0, 1)) (hi : (i0 : Nat) = i) (hn : i + 1 < M.2.1) (hv : lst2 lv i (.long x) = lv') (k : EV G M cc X ad n post (pc + 1) lv' rest h) : EV G M cc X ad n post pc lv (.long x :: rest) h := by
  intro p e R s m args below meth c A cells slots Q H locs ls hC hX hR hP hD hS hl
  subst hv
  exact lv_lstore_n hC.1 hC.2.1 hd hi hl.has hn rfl (fun ls' hl' => (k p e R s m args below meth c A cells slots Q H locs ls' hC hX hR hP hD hS (hl.st2 hl')))
theorem EV.astore {i : Nat} {x : Nat} {lv' : List (Option Value)} (hd : decode cc pc = .ok (.astore i, 2)) (hn : i < M.2.1) (hv : lst1 lv i (.ref x) = lv') (k : EV G M cc X ad n post (pc + 2) lv' rest h) : EV G M cc X ad n post pc lv (.ref x :: rest) h := by
  intro p e R s m args below meth c A cells slots Q H locs ls hC hX hR hP hD hS hl
  subst hv
  exact lv_astore hC.1 hC.2.1 hd hl.has hn rfl (fun ls' hl' => (k p e R s m args below meth c A cells slots Q H locs ls' hC hX hR hP hD hS (hl.st1 hl')))
theorem EV.astore_n (i : Nat) {i0 : Fin 4} {x : Nat} {lv' : List (Option Value)} (hd : decode cc pc = .ok (.astore_n i0, 1)) (hi : (i0 : Nat) = i) (hn : i < M.2.1) (hv : lst1 lv i (.ref x) = lv') (k : EV G M cc X ad n post (pc + 1) lv' rest h) : EV G M cc X ad n post pc lv (.ref x :: rest) h := by
  intro p e R s m args below meth c A cells slots Q H locs ls hC hX hR hP hD hS hl
  subst hv
  exact lv_astore_n hC.1 hC.2.1 hd hi hl.has hn rfl (fun ls' hl' => (k p e R s m args below meth c A cells slots Q H locs ls' hC hX hR hP hD hS (hl.st1 hl')))
theorem EV.astoreN {i : Nat}  {lv' : List (Option Value)} (hd : decode cc pc = .ok (.astore i, 2)) (hn : i < M.2.1) (hv : lst1 lv i (.null) = lv') (k : EV G M cc X ad n post (pc + 2) lv' rest h) : EV G M cc X ad n post pc lv (.null :: rest) h := by
  intro p e R s m args below meth c A cells slots Q H locs ls hC hX hR hP hD hS hl
  subst hv
  exact lv_astoreN hC.1 hC.2.1 hd hl.has hn rfl (fun ls' hl' => (k p e R s m args below meth c A cells slots Q H locs ls' hC hX hR hP hD hS (hl.st1 hl')))
theorem EV.astoreN_n (i : Nat) {i0 : Fin 4}  {lv' : List (Option Value)} (hd : decode cc pc = .ok (.astore_n i0, 1)) (hi : (i0 : Nat) = i) (hn : i < M.2.1) (hv : lst1 lv i (.null) = lv') (k : EV G M cc X ad n post (pc + 1) lv' rest h) : EV G M cc X ad n post pc lv (.null :: rest) h := by
  intro p e R s m args below meth c A cells slots Q H locs ls hC hX hR hP hD hS hl
  subst hv
  exact lv_astore_nN hC.1 hC.2.1 hd hi hl.has hn rfl (fun ls' hl' => (k p e R s m args below meth c A cells slots Q H locs ls' hC hX hR hP hD hS (hl.st1 hl')))
theorem EV.iinc {i : Nat} {a : Int} {x y : Int32} {lv' : List (Option Value)} (hd : decode cc pc = .ok (.iinc i a, 3)) (hn : i < M.2.1) (hg : lget lv i = some (.int x)) (hy : x + Int32.ofInt a = y) (hv : lst1 lv i (.int y) = lv') (k : EV G M cc X ad n post (pc + 3) lv' rest h) : EV G M cc X ad n post pc lv rest h := by
  intro p e R s m args below meth c A cells slots Q H locs ls hC hX hR hP hD hS hl
  subst hv
  obtain ⟨j, hj⟩ := List.getElem?_of_mem (lprs_mem.mpr (show (i, Value.int x).1 < M.2.1 ∧ lget lv (i, Value.int x).1 = some (i, Value.int x).2 from ⟨hn, hg⟩))
  exact lv_iinc hC.1 hC.2.1 hd hl.has hj hy hn rfl (fun ls' hl' => (k p e R s m args below meth c A cells slots Q H locs ls' hC hX hR hP hD hS (hl.st1 hl')))
theorem EV.icmp_eq {x y : Int32} {off : Int} {tgt : Nat} (hd : decode cc pc = .ok (.if_icmp .eq off, 3)) (ht : (pc : Int) + off = (tgt : Int)) (kt : x = y → EV G M cc X ad n post tgt lv rest h) (kf : ¬ x = y → EV G M cc X ad n post (pc + 3) lv rest h) : EV G M cc X ad n post pc lv (.int y :: .int x :: rest) h := by
  intro p e R s m args below meth c A cells slots Q H locs ls hC hX hR hP hD hS hl
  exact lv_icmp_eq hC.1 hC.2.1 hd ht (fun q => kt q p e R s m args below meth c A cells slots Q H locs ls hC hX hR hP hD hS hl) (fun q => kf q p e R s m args below meth c A cells slots Q H locs ls hC hX hR hP hD hS hl)
theorem EV.if_eq {x : Int32} {off : Int} {tgt : Nat} (hd : decode cc pc = .ok (.ifCond .eq off, 3)) (ht : (pc : Int) + off = (tgt : Int)) (kt : x = 0 → EV G M cc X ad n post tgt lv rest h) (kf : ¬ x = 0 → EV G M cc X ad n post (pc + 3) lv rest h) : EV G M cc X ad n post pc lv (.int x :: rest) h := by
  intro p e R s m args below meth c A cells slots Q H locs ls hC hX hR hP hD hS hl
  exact lv_if_eq hC.1 hC.2.1 hd ht (fun q => kt q p e R s m args below meth c A cells slots Q H locs ls hC hX hR hP hD hS hl) (fun q => kf q p e R s m args below meth c A cells slots Q H locs ls hC hX hR hP hD hS hl)
theorem EV.lcmp_eq {x y : Int64} {off : Int} {tgt : Nat} (hd0 : decode cc pc = .ok (.lcmp, 1)) (hd : decode cc (pc + 1) = .ok (.ifCond .eq off, 3)) (ht : ((pc + 1 : Nat) : Int) + off = (tgt : Int)) (kt : x = y → EV G M cc X ad n post tgt lv rest h) (kf : ¬ x = y → EV G M cc X ad n post (pc + 4) lv rest h) : EV G M cc X ad n post pc lv (.long y :: .long x :: rest) h := by
  intro p e R s m args below meth c A cells slots Q H locs ls hC hX hR hP hD hS hl
  exact W.lcmp hC.1 hC.2.1 hd0 (EV.if_eq (pc := pc + 1) hd ht (fun q => kt ((lg_cmp_eq x y).mp q)) (fun q => kf (fun z => q ((lg_cmp_eq x y).mpr z))) p e R s m args below meth c A cells slots Q H locs ls hC hX hR hP hD hS hl)
theorem EV.icmp_ne {x y : Int32} {off : Int} {tgt : Nat} (hd : decode cc pc = .ok (.if_icmp .ne off, 3)) (ht : (pc : Int) + off = (tgt : Int)) (kt : ¬ x = y → EV G M cc X ad n post tgt lv rest h) (kf : x = y → EV G M cc X ad n post (pc + 3) lv rest h) : EV G M cc X ad n post pc lv (.int y :: .int x :: rest) h := by
  intro p e R s m args below meth c A cells slots Q H locs ls hC hX hR hP hD hS hl
  exact lv_icmp_ne hC.1 hC.2.1 hd ht (fun q => kt q p e R s m args below meth c A cells slots Q H locs ls hC hX hR hP hD hS hl) (fun q => kf q p e R s m args below meth c A cells slots Q H locs ls hC hX hR hP hD hS hl)
theorem EV.if_ne {x : Int32} {off : Int} {tgt : Nat} (hd : decode cc pc = .ok (.ifCond .ne off, 3)) (ht : (pc : Int) + off = (tgt : Int)) (kt : ¬ x = 0 → EV G M cc X ad n post tgt lv rest h) (kf : x = 0 → EV G M cc X ad n post (pc + 3) lv rest h) : EV G M cc X ad n post pc lv (.int x :: rest) h := by
  intro p e R s m args below meth c A cells slots Q H locs ls hC hX hR hP hD hS hl
  exact lv_if_ne hC.1 hC.2.1 hd ht (fun q => kt q p e R s m args below meth c A cells slots Q H locs ls hC hX hR hP hD hS hl) (fun q => kf q p e R s m args below meth c A cells slots Q H locs ls hC hX hR hP hD hS hl)
theorem EV.lcmp_ne {x y : Int64} {off : Int} {tgt : Nat} (hd0 : decode cc pc = .ok (.lcmp, 1)) (hd : decode cc (pc + 1) = .ok (.ifCond .ne off, 3)) (ht : ((pc + 1 : Nat) : Int) + off = (tgt : Int)) (kt : ¬ x = y → EV G M cc X ad n post tgt lv rest h) (kf : x = y → EV G M cc X ad n post (pc + 4) lv rest h) : EV G M cc X ad n post pc lv (.long y :: .long x :: rest) h := by
  intro p e R s m args below meth c A cells slots Q H locs ls hC hX hR hP hD hS hl
  exact W.lcmp hC.1 hC.2.1 hd0 (EV.if_ne (pc := pc + 1) hd ht (fun q => kt ((not_congr (lg_cmp_eq x y)).mp q)) (fun q => kf ((lg_cmp_eq x y).mp q)) p e R s m args below meth c A cells slots Q H locs ls hC hX hR hP hD hS hl)
theorem EV.icmp_lt {x y : Int32} {off : Int} {tgt : Nat} (hd : decode cc pc = .ok (.if_icmp .lt off, 3)) (ht : (pc : Int) + off = (tgt : Int)) (kt : x < y → EV G M cc X ad n post tgt lv rest h) (kf : ¬ x < y → EV G M cc X ad n post (pc + 3) lv rest h) : EV G M cc X ad n post pc lv (.int y :: .int x :: rest) h := by
  intro p e R s m args below meth c A cells slots Q H locs ls hC hX hR hP hD hS hl
  exact lv_icmp_lt hC.1 hC.2.1 hd ht (fun q => kt q p e R s m args below meth c A cells slots Q H locs ls hC hX hR hP hD hS hl) (fun q => kf q p e R s m args below meth c A cells slots Q H locs ls hC hX hR hP hD hS hl)
theorem EV.if_lt {x : Int32} {off : Int} {tgt : Nat} (hd : decode cc pc = .ok (.ifCond .lt off, 3)) (ht : (pc : Int) + off = (tgt : Int)) (kt : x < 0 → EV G M cc X ad n post tgt lv rest h) (kf : ¬ x < 0 → EV G M cc X ad n post (pc + 3) lv rest h) : EV G M cc X ad n post pc lv (.int x :: rest) h := by
  intro p e R s m args below meth c A cells slots Q H locs ls hC hX hR hP hD hS hl
  exact lv_if_lt hC.1 hC.2.1 hd ht (fun q => kt q p e R s m args below meth c A cells slots Q H locs ls hC hX hR hP hD hS hl) (fun q => kf q p e R s m args below meth c A cells slots Q H locs ls hC hX hR hP hD hS hl)
theorem EV.lcmp_lt {x y : Int64} {off : Int} {tgt : Nat} (hd0 : decode cc pc = .ok (.lcmp, 1)) (hd : decode cc (pc + 1) = .ok (.ifCond .lt off, 3)) (ht : ((pc + 1 : Nat) : Int) + off = (tgt : Int)) (kt : x < y → EV G M cc X ad n post tgt lv rest h) (kf : ¬ x < y → EV G M cc X ad n post (pc + 4) lv rest h) : EV G M cc X ad n post pc lv (.long y :: .long x :: rest) h := by
  intro p e R s m args below meth c A cells slots Q H locs ls hC hX hR hP hD hS hl
  exact W.lcmp hC.1 hC.2.1 hd0 (EV.if_lt (pc := pc + 1) hd ht (fun q => kt ((lg_cmp_lt x y).mp q)) (fun q => kf (fun z => q ((lg_cmp_lt x y).mpr z))) p e R s m args below meth c A cells slots Q H locs ls hC hX hR hP hD hS hl)
theorem EV.icmp_ge {x y : Int32} {off : Int} {tgt : Nat} (hd : decode cc pc = .ok (.if_icmp .ge off, 3)) (ht : (pc : Int) + off = (tgt : Int)) (kt : y ≤ x → EV G M cc X ad n post tgt lv rest h) (kf : ¬ y ≤ x → EV G M cc X ad n post (pc + 3) lv rest h) : EV G M cc X ad n post pc lv (.int y :: .int x :: rest) h := by
  intro p e R s m args below meth c A cells slots Q H locs ls hC hX hR hP hD hS hl
  exact lv_icmp_ge hC.1 hC.2.1 hd ht (fun q => kt q p e R s m args below meth c A cells slots Q H locs ls hC hX hR hP hD hS hl) (fun q => kf q p e R s m args below meth c A cells slots Q H locs ls hC hX hR hP hD hS hl)
theorem EV.if_ge {x : Int32} {off : Int} {tgt : Nat} (hd : decode cc pc = .ok (.ifCond .ge off, 3)) (ht : (pc : Int) + off = (tgt : Int)) (kt : 0 ≤ x → EV G M cc X ad n post tgt lv rest h) (kf : ¬ 0 ≤ x → EV G M cc X ad n post (pc + 3) lv rest h) : EV G M cc X ad n post pc lv (.int x :: rest) h := by
  intro p e R s m args below meth c A cells slots Q H locs ls hC hX hR hP hD hS hl
  exact lv_if_ge hC.1 hC.2.1 hd ht (fun q => kt q p e R s m args below meth c A cells slots Q H locs ls hC hX hR hP hD hS hl) (fun q => kf q p e R s m args below meth c A cells slots Q H locs ls hC hX hR hP hD hS hl)
theorem EV.lcmp_ge {x y : Int64} {off : Int} {tgt : Nat} (hd0 : decode cc pc = .ok (.lcmp, 1)) (hd : decode cc (pc + 1) = .ok (.ifCond .ge off, 3)) (ht : ((pc + 1 : Nat) : Int) + off = (tgt : Int)) (kt : y ≤ x → EV G M cc X ad n post tgt lv rest h) (kf : ¬ y ≤ x → EV G M cc X ad n post (pc + 4) lv rest h) : EV G M cc X ad n post pc lv (.long y :: .long x :: rest) h := by
  intro p e R s m args below meth c A cells slots Q H locs ls hC hX hR hP hD hS hl
  exact W.lcmp hC.1 hC.2.1 hd0 (EV.if_ge (pc := pc + 1) hd ht (fun q => kt ((lg_cmp_ge x y).mp q)) (fun q => kf (fun z => q ((lg_cmp_ge x y).mpr z))) p e R s m args below meth c A cells slots Q H locs ls hC hX hR hP hD hS hl)
theorem EV.icmp_gt {x y : Int32} {off : Int} {tgt : Nat} (hd : decode cc pc = .ok (.if_icmp .gt off, 3)) (ht : (pc : Int) + off = (tgt : Int)) (kt : y < x → EV G M cc X ad n post tgt lv rest h) (kf : ¬ y < x → EV G M cc X ad n post (pc + 3) lv rest h) : EV G M cc X ad n post pc lv (.int y :: .int x :: rest) h := by
  intro p e R s m args below meth c A cells slots Q H locs ls hC hX hR hP hD hS hl
  exact lv_icmp_gt hC.1 hC.2.1 hd ht (fun q => kt q p e R s m args below meth c A cells slots Q H locs ls hC hX hR hP hD hS hl) (fun q => kf q p e R s m args below meth c A cells slots Q H locs ls hC hX hR hP hD hS hl)
theorem EV.if_gt {x : Int32} {off : Int} {tgt : Nat} (hd : decode cc pc = .ok (.ifCond .gt off, 3)) (ht : (pc : Int) + off = (tgt : Int)) (kt : 0 < x → EV G M cc X ad n post tgt lv rest h) (kf : ¬ 0 < x → EV G M cc X ad n post (pc + 3) lv rest h) : EV G M cc X ad n post pc lv (.int x :: rest) h := by
  intro p e R s m args below meth c A cells slots Q H locs ls hC hX hR hP hD hS hl
  exact lv_if_gt hC.1 hC.2.1 hd ht (fun q => kt q p e R s m args below meth c A cells slots Q H locs ls hC hX hR hP hD hS hl) (fun q => kf q p e R s m args below meth c A cells slots Q H locs ls hC hX hR hP hD hS hl)
theorem EV.lcmp_gt {x y : Int64} {off : Int} {tgt : Nat} (hd0 : decode cc pc = .ok (.lcmp, 1)) (hd : decode cc (pc + 1) = .ok (.ifCond .gt off, 3)) (ht : ((pc + 1 : Nat) : Int) + off = (tgt : Int)) (kt : y < x → EV G M cc X ad n post tgt lv rest h) (kf : ¬ y < x → EV G M cc X ad n post (pc + 4) lv rest h) : EV G M cc X ad n post pc lv (.long y :: .long x :: rest) h := by
  intro p e R s m args below meth c A cells slots Q H locs ls hC hX hR hP hD hS hl
  exact W.lcmp hC.1 hC.2.1 hd0 (EV.if_gt (pc := pc + 1) hd ht (fun q => kt ((lg_cmp_gt x y).mp q)) (fun q => kf (fun z => q ((lg_cmp_gt x y).mpr z))) p e R s m args below meth c A cells slots Q H locs ls hC hX hR hP hD hS hl)
theorem EV.icmp_le {x y : Int32} {off : Int} {tgt : Nat} (hd : decode cc pc = .ok (.if_icmp .le off, 3)) (ht : (pc : Int) + off = (tgt : Int)) (kt : x ≤ y → EV G M cc X ad n post tgt lv rest h) (kf : ¬ x ≤ y → EV G M cc X ad n post (pc + 3) lv rest h) : EV G M cc X ad n post pc lv (.int y :: .int x :: rest) h := by
  intro p e R s m args below meth c A cells slots Q H locs ls hC hX hR hP hD hS hl
  exact lv_icmp_le hC.1 hC.2.1 hd ht (fun q => kt q p e R s m args below meth c A cells slots Q H locs ls hC hX hR hP hD hS hl) (fun q => kf q p e R s m args below meth c A cells slots Q H locs ls hC hX hR hP hD hS hl)
theorem EV.if_le {x : Int32} {off : Int} {tgt : Nat} (hd : decode cc pc = .ok (.ifCond .le off, 3)) (ht : (pc : Int) + off = (tgt : Int)) (kt : x ≤ 0 → EV G M cc X ad n post tgt lv rest h) (kf : ¬ x ≤ 0 → EV G M cc X ad n post (pc + 3) lv rest h) : EV G M cc X ad n post pc lv (.int x :: rest) h := by
  intro p e R s m args below meth c A cells slots Q H locs ls hC hX hR hP hD hS hl
  exact lv_if_le hC.1 hC.2.1 hd ht (fun q => kt q p e R s m args below meth c A cells slots Q H locs ls hC hX hR hP hD hS hl) (fun q => kf q p e R s m args below meth c A cells slots Q H locs ls hC hX hR hP hD hS hl)
theorem EV.lcmp_le {x y : Int64} {off : Int} {tgt : Nat} (hd0 : decode cc pc = .ok (.lcmp, 1)) (hd : decode cc (pc + 1) = .ok (.ifCond .le off, 3)) (ht : ((pc + 1 : Nat) : Int) + off = (tgt : Int)) (kt : x ≤ y → EV G M cc X ad n post tgt lv rest h) (kf : ¬ x ≤ y → EV G M cc X ad n post (pc + 4) lv rest h) : EV G M cc X ad n post pc lv (.long y :: .long x :: rest) h := by
  intro p e R s m args below meth c A cells slots Q H locs ls hC hX hR hP hD hS hl
  exact W.lcmp hC.1 hC.2.1 hd0 (EV.if_le (pc := pc + 1) hd ht (fun q => kt ((lg_cmp_le x y).mp q)) (fun q => kf (fun z => q ((lg_cmp_le x y).mpr z))) p e R s m args below meth c A cells slots Q H locs ls hC hX hR hP hD hS hl)
theorem EV.goto {off : Int} {tgt : Nat} (hd : decode cc pc = .ok (.goto off, 3)) (ht : (pc : Int) + off = (tgt : Int)) (k : EV G M cc X ad n post tgt lv rest h) : EV G M cc X ad n post pc lv rest h := by
  intro p e R s m args below meth c A cells slots Q H locs ls hC hX hR hP hD hS hl
  exact lv_goto hC.1 hC.2.1 hd ht (k p e R s m args below meth c A cells slots Q H locs ls hC hX hR hP hD hS hl)
theorem EV.ifnonnull {x : Nat} {off : Int} {tgt : Nat} (hd : decode cc pc = .ok (.ifnonnull off, 3)) (ht : (pc : Int) + off = (tgt : Int)) (k : EV G M cc X ad n post tgt lv rest h) : EV G M cc X ad n post pc lv (.ref x :: rest) h := by
  intro p e R s m args below meth c A cells slots Q H locs ls hC hX hR hP hD hS hl
  exact lv_ifnonnull hC.1 hC.2.1 hd ht (k p e R s m args below meth c A cells slots Q H locs ls hC hX hR hP hD hS hl)
theorem EV.ifnonnullN {off : Int} (hd : decode cc pc = .ok (.ifnonnull off, 3)) (k : EV G M cc X ad n post (pc + 3) lv rest h) : EV G M cc X ad n post pc lv (.null :: rest) h := by
  intro p e R s m args below meth c A cells slots Q H locs ls hC hX hR hP hD hS hl
  exact lv_ifnonnullN hC.1 hC.2.1 hd (k p e R s m args below meth c A cells slots Q H locs ls hC hX hR hP hD hS hl)
theorem EV.ifnull {x : Nat} {off : Int} (hd : decode cc pc = .ok (.ifnull off, 3)) (k : EV G M cc X ad n post (pc + 3) lv rest h) : EV G M cc X ad n post pc lv (.ref x :: rest) h := by
  intro p e R s m args below meth c A cells slots Q H locs ls hC hX hR hP hD hS hl
  exact lv_ifnull hC.1 hC.2.1 hd (k p e R s m args below meth c A cells slots Q H locs ls hC hX hR hP hD hS hl)
theorem EV.ifnullN {off : Int} {tgt : Nat} (hd : decode cc pc = .ok (.ifnull off, 3)) (ht : (pc : Int) + off = (tgt : Int)) (k : EV G M cc X ad n post tgt lv rest h) : EV G M cc X ad n post pc lv (.null :: rest) h := by
  intro p e R s m args below meth c A cells slots Q H locs ls hC hX hR hP hD hS hl
  exact lv_ifnullN hC.1 hC.2.1 hd ht (k p e R s m args below meth c A cells slots Q H locs ls hC hX hR hP hD hS hl)
theorem EV.tin {dflt lo hi : Int} {offs : Array Int} {len : Nat} {x : Int32} {off : Int} {tgt : Nat} (hd : decode cc pc = .ok (.tableswitch dflt lo hi offs, len)) (h1 : ¬ x.toInt < lo) (h2 : ¬ hi < x.toInt) (ho : offs[(x.toInt - lo).toNat]? = some off) (ht : (pc : Int) + off = (tgt : Int)) (k : EV G M cc X ad n post tgt lv rest h) : EV G M cc X ad n post pc lv (.int x :: rest) h := by
  intro p e R s m args below meth c A cells slots Q H locs ls hC hX hR hP hD hS hl
  exact lv_tableIn hC.1 hC.2.1 hd h1 h2 ho ht (k p e R s m args below meth c A cells slots Q H locs ls hC hX hR hP hD hS hl)
theorem EV.tout {dflt lo hi : Int} {offs : Array Int} {len : Nat} {x : Int32} {tgt : Nat} (hd : decode cc pc = .ok (.tableswitch dflt lo hi offs, len)) (h1 : x.toInt < lo ∨ hi < x.toInt) (ht : (pc : Int) + dflt = (tgt : Int)) (k : EV G M cc X ad n post tgt lv rest h) : EV G M cc X ad n post pc lv (.int x :: rest) h := by
  intro p e R s m args below meth c A cells slots Q H locs ls hC hX hR hP hD hS hl
  exact lv_tableOut hC.1 hC.2.1 hd h1 ht (k p e R s m args below meth c A cells slots Q H locs ls hC hX hR hP hD hS hl)
theorem EV.iald {q z : Nat} {f : Nat → Int32} {i : Int32} (hd : decode cc pc = .ok (.iaload, 1)) (hq : q < n) (hh : h q = .inl (G.2.2 0, z, .inl f)) (hi : vp_in i z) (k : EV G M cc X ad n post (pc + 1) lv (.int (f i.toNatClampNeg) :: rest) h) : EV G M cc X ad n post pc lv (.int i :: .ref (ad q) :: rest) h := by
  intro p e R s m args below meth c A cells slots Q H locs ls hC hX hR hP hD hS hl
  exact va_iald hC.1 hC.2.1 hC.2.2.2.2.2.1 hP q 0 (wld_get' hq hh) rfl hi hd (k p e R s m args below meth c A cells slots Q H locs ls hC hX hR hP hD hS hl)
theorem EV.zald {q z : Nat} {f : Nat → Int32} {i : Int32} (hd : decode cc pc = .ok (.baload, 1)) (hq : q < n) (hh : h q = .inl (G.2.2 2, z, .inl f)) (hi : vp_in i z) (k : EV G M cc X ad n post (pc + 1) lv (.int (f i.toNatClampNeg) :: rest) h) : EV G M cc X ad n post pc lv (.int i :: .ref (ad q) :: rest) h := by
  intro p e R s m args below meth c A cells slots Q H locs ls hC hX hR hP hD hS hl
  exact va_zald hC.1 hC.2.1 hC.2.2.2.2.2.1 hP q 2 (wld_get' hq hh) rfl hi hd (k p e R s m args below meth c A cells slots Q H locs ls hC hX hR hP hD hS hl)
theorem EV.lald {q z : Nat} {f : Nat → Int64} {i : Int32} (hd : decode cc pc = .ok (.laload, 1)) (hq : q < n) (hh : h q = .inl (G.2.2 1, z, .inr (.inl f))) (hi : vp_in i z) (k : EV G M cc X ad n post (pc + 1) lv (.long (f i.toNatClampNeg) :: rest) h) : EV G M cc X ad n post pc lv (.int i :: .ref (ad q) :: rest) h := by
  intro p e R s m args below meth c A cells slots Q H locs ls hC hX hR hP hD hS hl
  exact va_lald hC.1 hC.2.1 hC.2.2.2.2.2.1 hP q 1 (wld_get' hq hh) rfl hi hd (k p e R s m args below meth c A cells slots Q H locs ls hC hX hR hP hD hS hl)
theorem EV.aald {q z t0 : Nat} {C : String} {cA : ClassId} {f : Nat → Option Nat} {i : Int32} (hd : decode cc pc = .ok (.aaload, 1)) (ht : (tysOf G.2.2)[t0]? = some (cA, .object C)) (hq : q < n) (hh : h q = .inl (cA, z, .inr (.inr (.inr (.inr f))))) (hi : vp_in i z) {v : Value} (hv : va_rf (f i.toNatClampNeg) = v) (k : EV G M cc X ad n post (pc + 1) lv (v :: rest) h) : EV G M cc X ad n post pc lv (.int i :: .ref (ad q) :: rest) h := by
  intro p e R s m args below meth c A cells slots Q H locs ls hC hX hR hP hD hS hl
  subst hv
  exact va_aldq hC.1 hC.2.1 hC.2.2.2.2.2.1 hP q t0 (wld_get' hq hh) ht hi hd (k p e R s m args below meth c A cells slots Q H locs ls hC hX hR hP hD hS hl)
theorem EV.iast {q z : Nat} {f : Nat → Int32} {i : Int32} {x : Int32} (hd : decode cc pc = .ok (.iastore, 1)) (hq : q < n) (hh : h q = .inl (G.2.2 0, z, .inl f)) (hi : vp_in i z) (k : EV G M cc X ad n post (pc + 1) lv rest (va_up h q (.inl (G.2.2 0, z, .inl (upd f i.toNatClampNeg x))))) : EV G M cc X ad n post pc lv (.int x :: .int i :: .ref (ad q) :: rest) h := by
  intro p e R s m args below meth c A cells slots Q H locs ls hC hX hR hP hD hS hl
  exact va_iast hC.1 hC.2.1 hC.2.2.2.2.2.1 hP hD hS q 0 (wld_get' hq hh) rfl hi hd (fun H1 locs1 hP1 hD1 hS1 => (k p e R s m args below meth c A cells slots Q H1 locs1 ls hC hX hR (by rw [wld_set] at hP1; exact hP1) (by rw [wld_set] at hD1; exact hD1) hS1 hl))
theorem EV.zast {q z : Nat} {f : Nat → Int32} {i : Int32} {x : Int32} (hd : decode cc pc = .ok (.bastore, 1)) (hq : q < n) (hh : h q = .inl (G.2.2 2, z, .inl f)) (hi : vp_in i z) (k : EV G M cc X ad n post (pc + 1) lv rest (va_up h q (.inl (G.2.2 2, z, .inl (upd f i.toNatClampNeg (vp_nar .boolean x)))))) : EV G M cc X ad n post pc lv (.int x :: .int i :: .ref (ad q) :: rest) h := by
  intro p e R s m args below meth c A cells slots Q H locs ls hC hX hR hP hD hS hl
  exact va_zast hC.1 hC.2.1 hC.2.2.2.2.2.1 hP hD hS q 2 (wld_get' hq hh) rfl hi hd (fun H1 locs1 hP1 hD1 hS1 => (k p e R s m args below meth c A cells slots Q H1 locs1 ls hC hX hR (by rw [wld_set] at hP1; exact hP1) (by rw [wld_set] at hD1; exact hD1) hS1 hl))
theorem EV.last {q z : Nat} {f : Nat → Int64} {i : Int32} {x : Int64} (hd : decode cc pc = .ok (.lastore, 1)) (hq : q < n) (hh : h q = .inl (G.2.2 1, z, .inr (.inl f))) (hi : vp_in i z) (k : EV G M cc X ad n post (pc + 1) lv rest (va_up h q (.inl (G.2.2 1, z, .inr (.inl (vp_updL f i.toNatClampNeg x)))))) : EV G M cc X ad n post pc lv (.long x :: .int i :: .ref (ad q) :: rest) h := by
  intro p e R s m args below meth c A cells slots Q H locs ls hC hX hR hP hD hS hl
  exact va_last hC.1 hC.2.1 hC.2.2.2.2.2.1 hP hD hS q 1 (wld_get' hq hh) rfl hi hd (fun H1 locs1 hP1 hD1 hS1 => (k p e R s m args below meth c A cells slots Q H1 locs1 ls hC hX hR (by rw [wld_set] at hP1; exact hP1) (by rw [wld_set] at hD1; exact hD1) hS1 hl))
theorem EV.alen {q t0 : Nat} {cA : ClassId} {x : vp_A} {ty : FieldType} {v : Int32} (hd : decode cc pc = .ok (.arraylength, 1)) (ht : (tysOf G.2.2)[t0]? = some (cA, ty)) (hq : q < n) (hh : h q = .inl (cA, x)) (hv : Int32.ofNat x.1 = v) (k : EV G M cc X ad n post (pc + 1) lv (.int v :: rest) h) : EV G M cc X ad n post pc lv (.ref (ad q) :: rest) h := by
  intro p e R s m args below meth c A cells slots Q H locs ls hC hX hR hP hD hS hl
  exact va_alen hC.1 hC.2.1 hC.2.2.2.2.2.1 hP q t0 (wld_get' hq hh) ht hv hd (k p e R s m args below meth c A cells slots Q H locs ls hC hX hR hP hD hS hl)
theorem EV.sld {b L : Nat} {xs : Nat → Int32} {i : Int32} (hd : decode cc pc = .ok (.iaload, 1)) (hi : vp_in i L) (k : EV G M cc (some (b, L, xs)) ad n post (pc + 1) lv (.int (xs i.toNatClampNeg) :: rest) h) : EV G M cc (some (b, L, xs)) ad n post pc lv (.int i :: .ref b :: rest) h := by
  intro p e R s m args below meth c A cells slots Q H locs ls hC hX hR hP hD hS hl
  obtain ⟨x1, x2, x3⟩ := hX _ rfl
  exact va_sld hC.1 hC.2.1 x1 x2 x3 hS hi hd (k p e R s m args below meth c A cells slots Q H locs ls hC hX hR hP hD hS hl)
theorem EV.slen {b L : Nat} {xs : Nat → Int32} (hd : decode cc pc = .ok (.arraylength, 1)) (k : EV G M cc (some (b, L, xs)) ad n post (pc + 1) lv (.int (Int32.ofNat L) :: rest) h) : EV G M cc (some (b, L, xs)) ad n post pc lv (.ref b :: rest) h := by
  intro p e R s m args below meth c A cells slots Q H locs ls hC hX hR hP hD hS hl
  obtain ⟨x1, x2, x3⟩ := hX _ rfl
  exact va_slen hC.1 hC.2.1 x1 x2 x3 hS hd (k p e R s m args below meth c A cells slots Q H locs ls hC hX hR hP hD hS hl)

theorem EV.getf {idx ci f q : Nat} {fs : List Value} {v : Value} (hd : decode cc pc = .ok (.getfield idx, 3)) (hf : okF M.1.cls idx ci f) (hq : q < n) (hh : h q = .inr (ci, fs)) (hv : fs[f]? = some v) (k : EV G M cc X ad n post (pc + 3) lv (v :: rest) h) : EV G M cc X ad n post pc lv (.ref (ad q) :: rest) h := by
  intro p e R s m args below meth c A cells slots Q H locs ls hC hX hR hP hD hS hl
  obtain ⟨C, T, N, f1, f2, f3, f4, f5⟩ := hf
  exact va_get hC.1 hC.2.1 hC.2.2.2.2.1 f3 hC.2.2.2.1 hC.2.2.2.2.2.1 hP q (wld_get' hq hh) f1 f f2 (hC.2.2.2.2.1 _ f4) (fun x hx => by rw [f5] at hx; exact hx) hv hd (k p e R s m args below meth c A cells slots Q H locs ls hC hX hR hP hD hS hl)
theorem EV.putf {idx ci f q : Nat} {fs : List Value} {v : Value} {ty : FieldType} (hd : decode cc pc = .ok (.putfield idx, 3)) (hf : okP M.1.cls idx ci f ty) (hq : q < n) (hh : h q = .inr (ci, fs)) (hn : narrow ty v = v) (hfit : fits ty v = true) (hl0 : f < fs.length) (k : EV G M cc X ad n post (pc + 3) lv rest (va_up h q (.inr (ci, fs.set f v)))) : EV G M cc X ad n post pc lv (v :: .ref (ad q) :: rest) h := by
  intro p e R s m args below meth c A cells slots Q H locs ls hC hX hR hP hD hS hl
  obtain ⟨C, T, N, ty0, f1, f2, f3, f4, f5, f6, f7, f8, f9⟩ := hf
  exact va_put hC.1 hC.2.1 hC.2.2.2.2.1 f3 ty0 f6 f7 hC.2.2.2.1 hC.2.2.2.2.2.1 hP hD hS q (wld_get' hq hh) f1 f f2 (hC.2.2.2.2.1 _ f4) (fun x hx => by rw [f5] at hx; exact hx) f8 f9 hn hfit hl0 hd (fun H1 locs1 hP1 hD1 hS1 => (k p e R s m args below meth c A cells slots Q H1 locs1 ls hC hX hR (by rw [wld_set] at hP1; exact hP1) (by rw [wld_set] at hD1; exact hD1) hS1 hl))
theorem lw_good : eT.all goodWord = true := List.all_eq_true.mpr (fun w hw => (List.mem_filter.mp hw).2)
theorem lw_goodIn {y : MethodName} {cc : ByteArray} {mL : Nat} {ret : Option FieldType} (h : Cond.code y cc mL ret ∈ eT) : GoodIn eT (.code y cc mL ret :: eT) := by
  intro w hw
  have hm : w ∈ eT := by
    rcases List.mem_cons.mp hw with rfl | hw
    · exact h
    · exact hw
  exact ⟨hm, good_of_word (List.all_eq_true.mp lw_good w hm)⟩
theorem EV.callB {M' : eM} {cc' : ByteArray} {a idx : Nat} {R : Room} {s : State} {args : Array Value} {own : String} (hts : ∀ w ∈ eT, w.before args s = true) (ho : okC M' cc' a) (hlk : Cond.methodLink own idx M'.1 ∈ eT) (h1 : M'.2.2.2.1 + 1 ≤ R.frames) (h2 : 8 + (M'.2.1 + 11) + M'.2.2.2.2 ≤ R.locals) : CallB R s args own idx M'.1 cc' M'.2.1 M'.2.2.1 (.code M'.1 cc' M'.2.1 M'.2.2.1 :: eT) { frames := M'.2.2.2.1, cells := 0, slots := 0, locals := M'.2.2.2.2 } 0 0 a :=
  callB_of a hts (lw_goodIn ho.2.1) rfl rfl rfl (hts _ ho.1) (hts _ hlk) ⟨ho.2.2.1.1, ho.2.2.1.2, ho.2.2.2⟩ ⟨h1, h2⟩
theorem va_callg {p : Program} {l : Launch} {e : Env} {R : Room} {s : State} {m : MethodId} {args : Array Value} {below : List Frame} {meth : Method} {c : Code} {H : Heap} {locs : List Loc} {cells slots mc ms : Nat} {Q : State → Prop} {pc : Nat} {ls : Array Slot} {rest st0 : List Value} {a : Array Value} {A0 A1 : Nat → Prop} {H0 : Heap} {free : Addr → Prop} {G : eG} {ad : Nat → Nat} {n : Nat} {post : eP}
    (hr : va_Run p l e R s m args below meth c H locs cells slots mc ms (F0 m pc ls st0) rest (QM G ad n post A1 a) free) (hS : va_S A0 H0 H locs) (hA : ∀ q, q < H.size → A1 q → A0 q) (hA2 : ∀ q, A1 q → A0 q) (hf : ∀ q, free q → A0 q)
    (kk : ∀ (v : Option Value) (h' : Nat → va_E) (H1 : Heap) (locs1 : List Loc), post v h' → va_P G.2.1 vwCl (wld ad n h') H1 → va_D A0 (wld ad n h') → va_S A0 H0 H1 locs1 → W p l e R s m args below meth c H1 locs1 (cells + mc) (slots + ms) Q (F0 m (pc + 3) ls (v.toList ++ rest))) : W p l e R s m args below meth c H locs cells slots Q (F0 m pc ls st0) := by
  intro T hT Y
  obtain ⟨v, st₀, t, T', L, h0, X', hL, e1, e2, ⟨⟨v', h', hv, hp, hb, hk', hd'⟩, hz, hk⟩, st⟩ := hr T hT Y
  cases hv
  rw [h0] at hz hk
  obtain ⟨t2, a1, b1⟩ := kk v h' T'.heap (locs ++ L) hp (by rw [e1]; exact hb) (hd'.weaken (fun _ q _ hq => hA2 q.1 hq))
    ⟨Nat.le_trans hS.1 (by rw [e1]; exact hz), fun q h1 h2 => by rw [e1, hk q (Nat.lt_of_lt_of_le h1 hS.1) (fun z => h2 (hA q (Nat.lt_of_lt_of_le h1 hS.1) z))]; exact hS.2.1 q h1 h2, fun q hq => by
      rcases List.mem_append.mp hq with h | h
      · exact hS.2.2 q h
      · exact hf _ (hL q h)⟩ T' rfl X'
  exact ⟨t2, st t2 a1, b1⟩
theorem WB.blind {G : eG} {ad : Nat → Nat} {n : Nat} {h : Nat → va_E} {sz : Nat} {av : List Value} : FrameBlind (va_Pc av (WB G ad n h sz)) := by
  intro a U g mk q
  obtain ⟨q0, q1, qP, qK, qD, qN⟩ := q
  exact ⟨q0, q1, qP, va_K.moved (u := U) (U := U.calling g mk a) (Vm.Alike.refl U.vm) qK, qD, NX.same (u := U) (U := U.calling g mk a) rfl qN⟩
theorem wld_free {A : Nat → Prop} {ad : Nat → Nat} {n : Nat} {h : Nat → va_E} {H0 H : Heap} {locs : List Loc} (hD : va_D A (wld ad n h)) (hS : va_S A H0 H locs) (hA : ∀ q, H0.size ≤ q → A q) : ∀ q, va_A (wld ad n h) H.size q → A q := by
  intro q hq
  rcases hq with ⟨k, e, hk⟩ | hq
  · exact hD.2 k _ hk
  · exact hA q (Nat.le_trans hS.1 hq)
theorem EV.callV {M' : eM} {cc' : ByteArray} {post' : eP} {idx a q ci : Nat} {fs As : List Value} {st : List Value} (hd : decode cc pc = .ok (.invokevirtual idx, 3)) (hlk : Cond.methodLink M.1.cls idx M'.1 ∈ eT) (ho : okV M' cc' a ci) (hM : MC G M' cc' ad n (.ref (ad q) :: As) h post') (hR : M'.2.2.2.1 + 1 ≤ M.2.2.2.1 ∧ 8 + (M'.2.1 + 11) + M'.2.2.2.2 ≤ M.2.2.2.2) (ha : As.length = a) (hst : st = As.reverse ++ .ref (ad q) :: rest) (hw : (rest.map fun v => v.category).sum ≤ 8) (hq : q < n) (hh : h q = .inr (ci, fs)) (k : ∀ v h', post' v h' → EV G M cc X ad n post (pc + 3) lv (v.toList ++ rest) h') : EV G M cc X ad n post pc lv st h := by
  intro p e R s m args below meth c A cells slots Q H locs ls hC hX hRt hP hD hS hl
  obtain ⟨o1, o2, o3, T, N, o4⟩ := ho
  have hF := wld_free hD hS hC.2.2.2.2.2.2.1
  refine va_callg (va_runV (As := As) (rest := rest) ⟨hC.1, hC.2.1, hC.2.2.1, hC.2.2.2.1, hC.2.2.2.2.1⟩ (hM H.size) ⟨EV.callB hC.2.2.2.2.1 o1 hlk (Nat.le_trans hR.1 hC.2.2.2.2.2.2.2.1) (Nat.le_trans hR.2 hC.2.2.2.2.2.2.2.2.1), hC.2.2.2.2.1 _ o2, hC.2.2.2.2.1 _ o3⟩ ⟨WB.blind, va_recv hC.2.2.2.2.2.1 hP o4 (wld_get' hq hh), fun U hU hW => ⟨rfl, by rw [hU], by rw [hU]; exact hP, va_K.moved hW.alike hC.2.2.2.2.2.1, hD.weaken (fun _ _ _ _ => trivial), hC.2.2.2.2.2.2.2.2.2.2.2.warm hW⟩⟩ rfl ha hl.1 hst (lv_room hw) hd ⟨hC.2.2.2.2.2.2.2.2.2.1, hC.2.2.2.2.2.2.2.2.2.2.1⟩) hS (fun q _ hq => hF q hq) hF hF (fun v h' H1 locs1 hp hP1 hD1 hS1 => ?_)
  exact k v h' hp p e R s m args below meth c A cells slots Q H1 locs1 ls hC hX hRt hP1 hD1 hS1 hl
theorem EV.callS {M' : eM} {cc' : ByteArray} {post' : eP} {idx a : Nat} {As : List Value} {st : List Value} (hd : decode cc pc = .ok (.invokestatic idx, 3)) (hlk : Cond.methodLink M.1.cls idx M'.1 ∈ eT) (ho : okS M' cc' a) (hM : MC G M' cc' ad n As h post') (hR : M'.2.2.2.1 + 1 ≤ M.2.2.2.1 ∧ 8 + (M'.2.1 + 11) + M'.2.2.2.2 ≤ M.2.2.2.2) (ha : As.length = a) (hst : st = As.reverse ++ rest) (hw : (rest.map fun v => v.category).sum ≤ 8) (k : ∀ v h', post' v h' → EV G M cc X ad n post (pc + 3) lv (v.toList ++ rest) h') : EV G M cc X ad n post pc lv st h := by
  intro p e R s m args below meth c A cells slots Q H locs ls hC hX hRt hP hD hS hl
  obtain ⟨o1, o2⟩ := ho
  have hF := wld_free hD hS hC.2.2.2.2.2.2.1
  refine va_callg (va_runS (As := As) (rest := rest) ⟨hC.1, hC.2.1, hC.2.2.1, hC.2.2.2.1, hC.2.2.2.2.1⟩ (hM H.size) ⟨EV.callB hC.2.2.2.2.1 o1 hlk (Nat.le_trans hR.1 hC.2.2.2.2.2.2.2.1) (Nat.le_trans hR.2 hC.2.2.2.2.2.2.2.2.1), hC.2.2.2.2.1 _ o2⟩ ⟨WB.blind, fun U hU hW => ⟨rfl, by rw [hU], by rw [hU]; exact hP, va_K.moved hW.alike hC.2.2.2.2.2.1, hD.weaken (fun _ _ _ _ => trivial), hC.2.2.2.2.2.2.2.2.2.2.2.warm hW⟩⟩ rfl ha hl.1 hst (lv_room hw) hd ⟨hC.2.2.2.2.2.2.2.2.2.1, hC.2.2.2.2.2.2.2.2.2.2.1⟩) hS (fun q _ hq => hF q hq) hF hF (fun v h' H1 locs1 hp hP1 hD1 hS1 => ?_)
  exact k v h' hp p e R s m args below meth c A cells slots Q H1 locs1 ls hC hX hRt hP1 hD1 hS1 hl
theorem EV.callSN {M' : eM} {cc' : ByteArray} {v : Value} {h2 : Nat → va_E} {idx a : Nat} {host : String} {As : List Value} {st : List Value} (hd : decode cc pc = .ok (.invokestatic idx, 3)) (hlk : Cond.methodLinkNest M.1.cls idx M'.1 host ∈ eN) (ho : okS M' cc' a) (hM : MC G M' cc' ad n As h (fun v' h' => v' = some v ∧ h' = h2)) (hR : M'.2.2.2.1 + 1 ≤ M.2.2.2.1 ∧ 8 + (M'.2.1 + 11) + M'.2.2.2.2 ≤ M.2.2.2.2) (ha : As.length = a) (hst : st = As.reverse ++ rest) (hw : (rest.map fun v => v.category).sum ≤ 8) (k : EV G M cc X ad n post (pc + 3) lv (v :: rest) h2) : EV G M cc X ad n post pc lv st h := by
  intro p e R s m args below meth c A cells slots Q H locs ls hC hX hRt hP hD hS hl
  obtain ⟨o1, o2⟩ := ho
  have hF := wld_free hD hS hC.2.2.2.2.2.2.1
  refine va_callg (va_runSN (As := As) (rest := rest) (host := host) ⟨hC.1, hC.2.1, hC.2.2.1, hC.2.2.2.1, hC.2.2.2.2.1⟩ (hM H.size) ⟨va_cnB a hC.2.2.2.2.1 (lw_goodIn o1.2.1) rfl rfl rfl (hC.2.2.2.2.2.2.2.2.2.2.2.1 _ hlk) (hC.2.2.2.2.1 _ o1.1) ⟨o1.2.2.1.1, o1.2.2.1.2, o1.2.2.2⟩ ⟨Nat.le_trans hR.1 hC.2.2.2.2.2.2.2.1, Nat.le_trans hR.2 hC.2.2.2.2.2.2.2.2.1⟩, hC.2.2.2.2.1 _ o2, trivial⟩ ⟨WB.blind, fun U hU hW => ⟨rfl, by rw [hU], by rw [hU]; exact hP, va_K.moved hW.alike hC.2.2.2.2.2.1, hD.weaken (fun _ _ _ _ => trivial), hC.2.2.2.2.2.2.2.2.2.2.2.warm hW⟩⟩ rfl ha hl.1 hst (lv_room hw) hd ⟨hC.2.2.2.2.2.2.2.2.2.1, hC.2.2.2.2.2.2.2.2.2.2.1⟩) hS (fun q _ hq => hF q hq) hF hF (fun v' h' H1 locs1 hp hP1 hD1 hS1 => ?_)
  obtain ⟨rfl, rfl⟩ := hp
  exact k p e R s m args below meth c A cells slots Q H1 locs1 ls hC hX hRt hP1 hD1 hS1 hl
end EVR
/-- an answer and a heap that are known -/
abbrev IS (v : Option Value) (h : Nat → va_E) : eP := fun v' h' => v' = v ∧ h' = h
section EVC
variable {G : eG} {M : eM} {cc : ByteArray} {X : Option (Nat × Nat × (Nat → Int32))} {ad : Nat → Nat} {n : Nat} {post : eP} {pc : Nat} {lv : List (Option Value)} {rest : List Value} {h : Nat → va_E}
theorem EV.callVR1 {M' : eM} {cc' : ByteArray} {v : Value} {h2 : Nat → va_E} {idx a q ci : Nat} {fs As : List Value} {st : List Value} (hd : decode cc pc = .ok (.invokevirtual idx, 3)) (hlk : Cond.methodLink M.1.cls idx M'.1 ∈ eT) (ho : okV M' cc' a ci) (hM : MC G M' cc' ad n (.ref (ad q) :: As) h (IS (some v) h2)) (hR : M'.2.2.2.1 + 1 ≤ M.2.2.2.1 ∧ 8 + (M'.2.1 + 11) + M'.2.2.2.2 ≤ M.2.2.2.2) (ha : As.length = a) (hst : st = As.reverse ++ .ref (ad q) :: rest) (hw : (rest.map fun v => v.category).sum ≤ 8) (hq : q < n) (hh : h q = .inr (ci, fs)) (k : EV G M cc X ad n post (pc + 3) lv (v :: rest) h2) : EV G M cc X ad n post pc lv st h :=
  EV.callV hd hlk ho hM hR ha hst hw hq hh (fun v' h' hp => by obtain ⟨rfl, rfl⟩ := hp; exact k)
theorem EV.callVR0 {M' : eM} {cc' : ByteArray} {h2 : Nat → va_E} {idx a q ci : Nat} {fs As : List Value} {st : List Value} (hd : decode cc pc = .ok (.invokevirtual idx, 3)) (hlk : Cond.methodLink M.1.cls idx M'.1 ∈ eT) (ho : okV M' cc' a ci) (hM : MC G M' cc' ad n (.ref (ad q) :: As) h (IS none h2)) (hR : M'.2.2.2.1 + 1 ≤ M.2.2.2.1 ∧ 8 + (M'.2.1 + 11) + M'.2.2.2.2 ≤ M.2.2.2.2) (ha : As.length = a) (hst : st = As.reverse ++ .ref (ad q) :: rest) (hw : (rest.map fun v => v.category).sum ≤ 8) (hq : q < n) (hh : h q = .inr (ci, fs)) (k : EV G M cc X ad n post (pc + 3) lv rest h2) : EV G M cc X ad n post pc lv st h :=
  EV.callV hd hlk ho hM hR ha hst hw hq hh (fun v' h' hp => by obtain ⟨rfl, rfl⟩ := hp; exact k)
theorem EV.callSR1 {M' : eM} {cc' : ByteArray} {v : Value} {h2 : Nat → va_E} {idx a : Nat} {As : List Value} {st : List Value} (hd : decode cc pc = .ok (.invokestatic idx, 3)) (hlk : Cond.methodLink M.1.cls idx M'.1 ∈ eT) (ho : okS M' cc' a) (hM : MC G M' cc' ad n As h (IS (some v) h2)) (hR : M'.2.2.2.1 + 1 ≤ M.2.2.2.1 ∧ 8 + (M'.2.1 + 11) + M'.2.2.2.2 ≤ M.2.2.2.2) (ha : As.length = a) (hst : st = As.reverse ++ rest) (hw : (rest.map fun v => v.category).sum ≤ 8) (k : EV G M cc X ad n post (pc + 3) lv (v :: rest) h2) : EV G M cc X ad n post pc lv st h :=
  EV.callS hd hlk ho hM hR ha hst hw (fun v' h' hp => by obtain ⟨rfl, rfl⟩ := hp; exact k)
theorem EV.callSR0 {M' : eM} {cc' : ByteArray} {h2 : Nat → va_E} {idx a : Nat} {As : List Value} {st : List Value} (hd : decode cc pc = .ok (.invokestatic idx, 3)) (hlk : Cond.methodLink M.1.cls idx M'.1 ∈ eT) (ho : okS M' cc' a) (hM : MC G M' cc' ad n As h (IS none h2)) (hR : M'.2.2.2.1 + 1 ≤ M.2.2.2.1 ∧ 8 + (M'.2.1 + 11) + M'.2.2.2.2 ≤ M.2.2.2.2) (ha : As.length = a) (hst : st = As.reverse ++ rest) (hw : (rest.map fun v => v.category).sum ≤ 8) (k : EV G M cc X ad n post (pc + 3) lv rest h2) : EV G M cc X ad n post pc lv st h :=
  EV.callS hd hlk ho hM hR ha hst hw (fun v' h' hp => by obtain ⟨rfl, rfl⟩ := hp; exact k)
/-- a call whose answer is an int (a long, nothing) and whose heap is told by a property -/
theorem EV.callVPi {M' : eM} {cc' : ByteArray} {v : Value} {Pr : (Nat → va_E) → Prop} {idx a q ci : Nat} {fs As : List Value} {st : List Value} (hd : decode cc pc = .ok (.invokevirtual idx, 3)) (hlk : Cond.methodLink M.1.cls idx M'.1 ∈ eT) (ho : okV M' cc' a ci) (hM : MC G M' cc' ad n (.ref (ad q) :: As) h (fun v' h' => v' = some v ∧ Pr h')) (hR : M'.2.2.2.1 + 1 ≤ M.2.2.2.1 ∧ 8 + (M'.2.1 + 11) + M'.2.2.2.2 ≤ M.2.2.2.2) (ha : As.length = a) (hst : st = As.reverse ++ .ref (ad q) :: rest) (hw : (rest.map fun v => v.category).sum ≤ 8) (hq : q < n) (hh : h q = .inr (ci, fs)) (k : ∀ h2, Pr h2 → EV G M cc X ad n post (pc + 3) lv (v :: rest) h2) : EV G M cc X ad n post pc lv st h :=
  EV.callV hd hlk ho hM hR ha hst hw hq hh (fun v' h' hp => by obtain ⟨rfl, hp⟩ := hp; exact k h' hp)
theorem EV.callVP0 {M' : eM} {cc' : ByteArray} {Pr : (Nat → va_E) → Prop} {idx a q ci : Nat} {fs As : List Value} {st : List Value} (hd : decode cc pc = .ok (.invokevirtual idx, 3)) (hlk : Cond.methodLink M.1.cls idx M'.1 ∈ eT) (ho : okV M' cc' a ci) (hM : MC G M' cc' ad n (.ref (ad q) :: As) h (fun v' h' => v' = none ∧ Pr h')) (hR : M'.2.2.2.1 + 1 ≤ M.2.2.2.1 ∧ 8 + (M'.2.1 + 11) + M'.2.2.2.2 ≤ M.2.2.2.2) (ha : As.length = a) (hst : st = As.reverse ++ .ref (ad q) :: rest) (hw : (rest.map fun v => v.category).sum ≤ 8) (hq : q < n) (hh : h q = .inr (ci, fs)) (k : ∀ h2, Pr h2 → EV G M cc X ad n post (pc + 3) lv rest h2) : EV G M cc X ad n post pc lv st h :=
  EV.callV hd hlk ho hM hR ha hst hw hq hh (fun v' h' hp => by obtain ⟨rfl, hp⟩ := hp; exact k h' hp)
end EVC
