section
/-- the tables of s' have all that those of s have; they may have classes more, behind -/
def rg_up (s s' : State) : Prop :=
  (∀ (n : String) (c : ClassId), s.vm.findClass n = some c → s'.vm.findClass n = some c) ∧
  (∀ (i : Nat) (k : Class), s.vm.classes[i]? = some k → s'.vm.classes[i]? = some k) ∧
  s.vm.classes.size ≤ s'.vm.classes.size ∧ (∀ y z : Class, s'.vm.moduleBar y z = s.vm.moduleBar y z)
theorem rg_up_of (s : State) (K : Class) (hp : Array Cell) : rg_up s { s with vm := { s.vm with classes := s.vm.classes.push K }, heap := hp } := by
  refine ⟨fun n c h => ?_, fun i k h => ?_, ?_, fun _ _ => rfl⟩
  · have h : s.vm.classes.findIdx? _ = some c := h
    show (s.vm.classes.push K).findIdx? _ = some c
    rw [Array.findIdx?_push, h]
    rfl
  · show (s.vm.classes.push K)[i]? = some k
    have hi : i < s.vm.classes.size := (Array.getElem?_eq_some_iff.mp h).1
    rw [Array.getElem?_push, if_neg (Nat.ne_of_lt hi)]
    exact h
  · show s.vm.classes.size ≤ (s.vm.classes.push K).size
    simp
section
variable {s s' : State} {a : Array Value}
theorem rg_named (u : rg_up s s') {x : MethodName} {m : MethodId} (h : s.methodNamed? x = some m) : s'.methodNamed? x = some m := by
  simp only [State.methodNamed?, Option.bind_eq_bind, Option.bind_eq_some_iff, Option.pure_def, Option.some.injEq] at h ⊢
  obtain ⟨c, hc, k, hk, i, hi, e⟩ := h
  exact ⟨c, u.1 _ _ hc, k, u.2.1 _ _ hk, i, hi, e⟩
theorem rg_method (u : rg_up s s') {m : MethodId} {y : Method} (h : s.vm.method? m = some y) : s'.vm.method? m = some y := by
  simp only [Vm.method?, Option.bind_eq_bind, Option.bind_eq_some_iff] at h ⊢
  obtain ⟨k, hk, e⟩ := h
  exact ⟨k, u.2.1 _ _ hk, e⟩
theorem rg_byMethod (u : rg_up s s') {x : MethodName} {F : Method → Bool} (h : (((s.methodNamed? x).bind s.vm.method?).map F == some true) = true) :
    (((s'.methodNamed? x).bind s'.vm.method?).map F == some true) = true := by
  cases hm : s.methodNamed? x with
  | none => simp [hm] at h
  | some m =>
    cases hq : s.vm.method? m with
    | none => simp [hm, hq] at h
    | some y =>
      simp only [hm, hq, Option.bind_some] at h
      simp only [rg_named u hm, rg_method u hq, Option.bind_some]
      exact h
theorem rg_byClass (u : rg_up s s') {n : String} {F : Class → Bool} (h : (((s.vm.findClass n).bind fun c => (s.vm.classes[c]?)).map F == some true) = true) :
    (((s'.vm.findClass n).bind fun c => (s'.vm.classes[c]?)).map F == some true) = true := by
  cases hm : s.vm.findClass n with
  | none => simp [hm] at h
  | some c =>
    cases hq : s.vm.classes[c]? with
    | none => simp [hm, hq] at h
    | some k =>
      simp only [hm, hq, Option.bind_some] at h
      simp only [u.1 _ _ hm, u.2.1 _ _ hq, Option.bind_some]
      exact h
theorem rg_byClass2 (u : rg_up s s') {n : String} {F : Class → Bool} (h : (((s.vm.findClass n).bind fun c => (s.vm.classes[c]?).map F) == some true) = true) :
    (((s'.vm.findClass n).bind fun c => (s'.vm.classes[c]?).map F) == some true) = true := by
  cases hm : s.vm.findClass n with
  | none => simp [hm] at h
  | some c =>
    cases hq : s.vm.classes[c]? with
    | none => simp [hm, hq] at h
    | some k =>
      simp only [hm, hq, Option.bind_some] at h
      simp only [u.1 _ _ hm, u.2.1 _ _ hq, Option.bind_some]
      exact h
theorem rg_super (u : rg_up s s') {n p : String} (h : (Cond.superclass n p).before a s = true) : (Cond.superclass n p).before a s' = true := by
  simp only [Cond.before, Cond.holds, Cond.value] at h ⊢
  cases h1 : s.vm.findClass n with
  | none => simp [h1] at h
  | some c =>
    cases h2 : s.vm.findClass p with
    | none => simp [h1, h2] at h
    | some q =>
      cases h3 : s.vm.classes[c]? with
      | none => simp [h1, h2, h3] at h
      | some k =>
        cases h4 : s.vm.classes[q]? with
        | none => simp [h1, h2, h3, h4] at h
        | some kq =>
          simp only [h1, h2, h3, h4] at h
          simp only [u.1 _ _ h1, u.1 _ _ h2, u.2.1 _ _ h3, u.2.1 _ _ h4]
          exact h
theorem rg_pool (u : rg_up s s') {n : String} {p : ConstantPool} (h : s.poolOf? n = some p) : s'.poolOf? n = some p := by
  simp only [State.poolOf?, Option.bind_eq_bind, Option.bind_eq_some_iff, Option.pure_def, Option.some.injEq] at h ⊢
  obtain ⟨c, hc, k, hk, f, hf, e⟩ := h
  exact ⟨c, u.1 _ _ hc, k, u.2.1 _ _ hk, f, hf, e⟩
theorem rg_names (u : rg_up s s') {n : String} {i : Nat} {w : Names} (h : s.names n i w = true) : s'.names n i w = true := by
  simp only [State.names, decide_eq_true_eq, Option.bind_eq_some_iff] at h ⊢
  obtain ⟨p, hp, e⟩ := h
  exact ⟨p, rg_pool u hp, e⟩
theorem rg_const (u : rg_up s s') {n : String} {i : Nat} {w : Names} (h : ((s.vm.findClass n).map (fun _ => s.names n i w) == some true) = true) :
    ((s'.vm.findClass n).map (fun _ => s'.names n i w) == some true) = true := by
  cases hm : s.vm.findClass n with
  | none => simp [hm] at h
  | some c =>
    simp only [hm, Option.map_some, beq_iff_eq, Option.some.injEq] at h
    simp only [u.1 _ _ hm, Option.map_some, rg_names u h, beq_self_eq_true]
theorem rg_openOr (u : rg_up s s') {n : String} {i : Nat} {r : Resolved} (h : s.openOr n i r = true) : s'.openOr n i r = true := by
  simp only [State.openOr] at h ⊢
  cases h1 : s.vm.findClass n with
  | none => simp [h1] at h
  | some c =>
    cases h2 : s.vm.classes[c]? with
    | none => simp [h1, h2] at h
    | some k =>
      simp only [h1, h2, Option.bind_some] at h
      simp only [u.1 _ _ h1, u.2.1 _ _ h2, Option.bind_some]
      exact h
theorem rg_member (u : rg_up s s') {n : String} {i : Nat} {y : Nat × Bool} (h : s.memberEntry? n i = some y) : s'.memberEntry? n i = some y := by
  simp only [State.memberEntry?, Option.bind_eq_bind, Option.bind_eq_some_iff] at h ⊢
  obtain ⟨p, hp, e⟩ := h
  exact ⟨p, rg_pool u hp, e⟩
theorem rg_below (u : rg_up s s') : ∀ (n n' : Nat) (o : Option ClassId), n ≤ n' → s.vm.belowMagic n o = true → s'.vm.belowMagic n' o = true := by
  intro n
  induction n with
  | zero => intro n' o _ h; cases o <;> simp [Vm.belowMagic] at h
  | succ n ih =>
    intro n' o hle h
    cases n' with
    | zero => exact absurd hle (by omega)
    | succ n' =>
      cases o with
      | none => simp [Vm.belowMagic] at h
      | some c =>
        simp only [Vm.belowMagic] at h ⊢
        cases hk : s.vm.classes[c]? with
        | none => simp [hk] at h
        | some k =>
          simp only [hk, Option.any_some, Bool.or_eq_true] at h
          simp only [u.2.1 _ _ hk, Option.any_some, Bool.or_eq_true]
          exact h.imp_right (ih n' k.super (by omega))
theorem rg_access (u : rg_up s s') {k d : Class} {p : Platform} (h : s.vm.classAccessible p k d = true) : s'.vm.classAccessible p k d = true := by
  simp only [Vm.classAccessible, Vm.magic, Bool.or_eq_true, Bool.and_eq_true, u.2.2.2] at h ⊢
  rcases h with ((h | h) | h) | ⟨h, h2 | h2⟩
  · exact Or.inl (Or.inl (Or.inl h))
  · exact Or.inl (Or.inl (Or.inr h))
  · exact Or.inl (Or.inr h)
  · exact Or.inr ⟨h, Or.inl h2⟩
  · exact Or.inr ⟨h, Or.inr (rg_below u _ _ _ (by have := u.2.2.1; omega) h2)⟩
theorem rg_links (u : rg_up s s') {n m : String} {i : Nat} (h : s.classLinks n i m = some true) : s'.classLinks n i m = some true := by
  simp only [State.classLinks] at h ⊢
  cases h1 : s.vm.findClass n with
  | none => simp [h1] at h
  | some d =>
    cases h2 : s.vm.findClass m with
    | none => simp [h1, h2] at h
    | some c =>
      cases h3 : s.vm.classes[d]? with
      | none => simp [h1, h2, h3] at h
      | some dk =>
        cases h4 : s.vm.classes[c]? with
        | none => simp [h1, h2, h3, h4] at h
        | some ck =>
          simp only [h1, h2, h3, h4, Option.bind_eq_bind, Option.bind_some, Option.pure_def, Option.some.injEq, Bool.and_eq_true] at h
          simp only [u.1 _ _ h1, u.1 _ _ h2, u.2.1 _ _ h3, u.2.1 _ _ h4, Option.bind_eq_bind, Option.bind_some, Option.pure_def, Option.some.injEq, Bool.and_eq_true]
          exact ⟨⟨rg_names u h.1.1, rg_openOr u h.1.2⟩, rg_access u h.2⟩
theorem rg_subAux (u : rg_up s s') : ∀ (n n' : Nat) (y t : ClassId), n ≤ n' → s.vm.isSubclassAux n y t = true → s'.vm.isSubclassAux n' y t = true := by
  intro n
  induction n with
  | zero => intro n' y t _ h; simp [Vm.isSubclassAux] at h
  | succ n ih =>
    intro n' y t hle h
    cases n' with
    | zero => exact absurd hle (by omega)
    | succ n' =>
      simp only [Vm.isSubclassAux, Bool.or_eq_true] at h ⊢
      rcases h with h | h
      · exact Or.inl h
      · refine Or.inr ?_
        cases hk : s.vm.classes[y]? with
        | none => simp [hk] at h
        | some k =>
          simp only [hk] at h
          simp only [u.2.1 _ _ hk]
          cases hs : k.super with
          | none => simp [hs] at h
          | some p =>
            simp only [hs] at h ⊢
            exact ih n' p t (by omega) h
theorem rg_sub (u : rg_up s s') {y t : ClassId} (h : s.vm.isSubclass y t = true) : s'.vm.isSubclass y t = true :=
  rg_subAux u _ _ _ _ (by have := u.2.2.1; omega) h
theorem rg_plain (u : rg_up s s') {f : Nat} {c t d : ClassId} {ck dk : Class} (h : plainAccess s.vm f c ck t d dk = true) : plainAccess s'.vm f c ck t d dk = true := by
  simp only [plainAccess, Bool.or_eq_true, Bool.and_eq_true] at h ⊢
  rcases h with h | ⟨⟨⟨h1, h2⟩, h3⟩, (h4 | h4) | h4⟩
  · exact Or.inl h
  · exact Or.inr ⟨⟨⟨h1, h2⟩, rg_sub u h3⟩, Or.inl (Or.inl h4)⟩
  · exact Or.inr ⟨⟨⟨h1, h2⟩, rg_sub u h3⟩, Or.inl (Or.inr (rg_sub u h4))⟩
  · exact Or.inr ⟨⟨⟨h1, h2⟩, rg_sub u h3⟩, Or.inr (rg_sub u h4)⟩
/-- the class that is named declares the field itself -/
def rg_own (s : State) (ref name desc : String) : Bool :=
  match parseFieldDescriptor desc with
  | none => false
  | some ty => ((s.vm.findClass ref).bind fun c => (s.vm.classes[c]?)).any fun k => (k.findField name ty).isSome
theorem rg_field (u : rg_up s s') {ref name desc : String} {r : ClassId × Class × Nat × Field} (ho : rg_own s ref name desc = true) (h : s.fieldFound? ref name desc = some r) :
    s'.fieldFound? ref name desc = some r ∧ s.vm.findClass ref = some r.1 := by
  unfold rg_own at ho
  cases hp : parseFieldDescriptor desc with
  | none => simp [hp] at ho
  | some ty =>
    cases hc : s.vm.findClass ref with
    | none => simp [hp, hc] at ho
    | some c =>
      cases hk : s.vm.classes[c]? with
      | none => simp [hp, hc, hk] at ho
      | some k =>
        cases hi : k.findField name ty with
        | none => simp [hp, hc, hk, hi] at ho
        | some i =>
          have l1 : lookupField s.vm name ty (s.vm.classes.size + 1) c = some (c, i) := by
            simp [lookupField, lookupFieldAux, hk, hi]
          have l2 : lookupField s'.vm name ty (s'.vm.classes.size + 1) c = some (c, i) := by
            simp [lookupField, lookupFieldAux, u.2.1 _ _ hk, hi]
          simp only [State.fieldFound?, hp, hc, l1, hk, Option.bind_eq_bind, Option.bind_some, Option.pure_def] at h
          simp only [State.fieldFound?, hp, u.1 _ _ hc, l2, u.2.1 _ _ hk, Option.bind_eq_bind, Option.bind_some, Option.pure_def]
          refine ⟨h, ?_⟩
          cases hf : k.fields[i]? with
          | none => simp [hf] at h
          | some f =>
            simp only [hf, Option.bind_some, Option.some.injEq] at h
            rw [← h]
theorem rg_mlink (u : rg_up s s') {cls : String} {i : Nat} {x : MethodName} (ho : (s.methodNamed? x).isSome = true) (h : (Cond.methodLink cls i x).before a s = true) :
    (Cond.methodLink cls i x).before a s' = true := by
  obtain ⟨m0, hn⟩ := Option.isSome_iff_exists.mp ho
  simp only [Cond.before, Cond.holds, Cond.value] at h ⊢
  cases h1 : s.memberEntry? cls i with
  | none => simp [h1] at h
  | some y =>
    obtain ⟨ci, vi⟩ := y
    cases h2 : s.vm.findClass cls with
    | none => simp [h1, h2] at h
    | some d =>
      cases h3 : s.vm.findClass x.cls with
      | none => simp [h1, h2, h3] at h
      | some c =>
        cases h4 : s.methodFound? x.cls x.name x.desc with
        | none => simp [h1, h2, h3, h4] at h
        | some m =>
          simp only [h1, h2, h3, h4, beq_iff_eq, Option.bind_eq_bind, Option.bind_eq_some_iff, Option.pure_def, Option.some.injEq] at h
          obtain ⟨li, hl, dk, hd, ck, hck, mk, hmk, me, hme, e⟩ := h
          simp only [Bool.and_eq_true] at e
          obtain ⟨⟨⟨⟨⟨⟨⟨e1, e2⟩, e3⟩, e4⟩, e5⟩, e6⟩, e7⟩, e8⟩ := e
          subst e1
          have hx : x.cls ≠ "java/lang/invoke/MethodHandle" ∧ x.cls ≠ "java/lang/invoke/VarHandle" := ⟨by simpa using e5, by simpa using e6⟩
          have hm : m = m0 := Option.some.inj (h4.symm.trans (State.methodFound?_of_named hn hx))
          subst hm
          have h4' := State.methodFound?_of_named (rg_named u hn) hx
          simp only [rg_member u h1, u.1 _ _ h2, u.1 _ _ h3, h4', beq_iff_eq, Option.bind_eq_bind, Option.bind_eq_some_iff, Option.pure_def, Option.some.injEq]
          refine ⟨true, rg_links u hl, dk, u.2.1 _ _ hd, ck, u.2.1 _ _ hck, mk, u.2.1 _ _ hmk, me, rg_method u hme, ?_⟩
          simp only [Bool.and_eq_true]
          refine ⟨⟨⟨⟨⟨⟨⟨by simp, rg_names u e2⟩, rg_openOr u e3⟩, e4⟩, e5⟩, e6⟩, e7⟩, ?_⟩
          rw [Bool.or_eq_true] at e8 ⊢
          exact e8.imp_left (rg_plain u)
theorem rg_flink (u : rg_up s s') {cls ref name desc : String} {i : Nat} (ho : rg_own s ref name desc = true) (h : (Cond.fieldLink cls i ref name desc).before a s = true) :
    (Cond.fieldLink cls i ref name desc).before a s' = true := by
  simp only [Cond.before, Cond.holds, Cond.value] at h ⊢
  cases h1 : s.memberEntry? cls i with
  | none => simp [h1] at h
  | some y =>
    obtain ⟨ci, vi⟩ := y
    cases h2 : s.vm.findClass cls with
    | none => simp [h1, h2] at h
    | some d =>
      cases h4 : s.fieldFound? ref name desc with
      | none => simp [h1, h2, h4] at h
      | some r =>
        obtain ⟨c, k, j, f⟩ := r
        cases h3 : s.vm.findClass ref with
        | none => simp [h1, h2, h4, h3] at h
        | some t =>
          simp only [h1, h2, h3, h4, beq_iff_eq, Option.bind_eq_bind, Option.bind_eq_some_iff, Option.pure_def, Option.some.injEq] at h
          obtain ⟨li, hl, dk, hd, e⟩ := h
          simp only [Bool.and_eq_true] at e
          obtain ⟨⟨⟨⟨e1, e2⟩, e3⟩, e4⟩, e5⟩ := e
          subst e1
          simp only [rg_member u h1, u.1 _ _ h2, u.1 _ _ h3, (rg_field u ho h4).1, beq_iff_eq, Option.bind_eq_bind, Option.bind_eq_some_iff, Option.pure_def, Option.some.injEq]
          refine ⟨true, rg_links u hl, dk, u.2.1 _ _ hd, ?_⟩
          simp only [Bool.and_eq_true]
          exact ⟨⟨⟨⟨by simp, rg_names u e2⟩, rg_openOr u e3⟩, e4⟩, rg_plain u e5⟩
theorem rg_declares (u : rg_up s s') {slot : Nat} : ∀ (n : Nat) (c : ClassId) (r : Class × Field), Jmm.declares? s.vm slot n c = some r → Jmm.declares? s'.vm slot n c = some r := by
  intro n
  induction n with
  | zero => intro c r h; simp [Jmm.declares?] at h
  | succ n ih =>
    intro c r h
    simp only [Jmm.declares?] at h ⊢
    cases hk : s.vm.classes[c]? with
    | none => simp [hk] at h
    | some k =>
      simp only [hk, Option.bind_eq_bind, Option.bind_some] at h
      simp only [u.2.1 _ _ hk, Option.bind_eq_bind, Option.bind_some]
      cases hf : k.fields.find? (fun f => !f.isStatic && f.slot == slot) with
      | some f =>
        simp only [hf] at h ⊢
        exact h
      | none =>
        simp only [hf] at h ⊢
        cases hs : k.super with
        | none => simp [hs] at h
        | some p =>
          simp only [hs, Option.bind_some] at h ⊢
          exact ih p r h
theorem rg_self (vm : Vm) (c : ClassId) : vm.assignable c c = true := by
  show vm.assignableAux _ c c = true
  unfold Vm.assignableAux
  simp
theorem rg_lays (u : rg_up s s') {cls owner name desc : String} (he : cls = owner) (ho : rg_own s owner name desc = true) (h : (Cond.lays cls owner name desc).before a s = true) :
    (Cond.lays cls owner name desc).before a s' = true := by
  subst he
  simp only [Cond.before, Cond.holds, Cond.value] at h ⊢
  cases h1 : s.vm.findClass cls with
  | none => simp [h1] at h
  | some c =>
    cases h4 : s.fieldFound? cls name desc with
    | none => simp [h1, h4] at h
    | some r =>
      obtain ⟨c', k', j, f⟩ := r
      have q := rg_field u ho h4
      have ec : c = c' := Option.some.inj (h1.symm.trans q.2)
      subst ec
      cases h2 : s.vm.classes[c]? with
      | none => simp [h1, h4, h2] at h
      | some k =>
        simp only [h1, h4, h2, Option.map_some, beq_iff_eq, Option.some.injEq, Bool.and_eq_true] at h
        obtain ⟨⟨⟨⟨⟨e1, e2⟩, e3⟩, e4⟩, e5⟩, e6⟩ := h
        simp only [u.1 _ _ h1, q.1, u.2.1 _ _ h2, Option.map_some, beq_iff_eq, Option.some.injEq, Bool.and_eq_true]
        refine ⟨⟨⟨⟨⟨e1, e2⟩, rg_self _ _⟩, by simp⟩, e5⟩, ?_⟩
        cases hd : Jmm.declares? s.vm f.slot (c + 1) c with
        | none => simp [hd] at e6
        | some r =>
          rw [hd] at e6
          rw [rg_declares u _ _ _ hd]
          exact e6
theorem rg_laysFinal (u : rg_up s s') {cls owner name desc : String} (he : cls = owner) (ho : rg_own s owner name desc = true) (h : (Cond.laysFinal cls owner name desc).before a s = true) :
    (Cond.laysFinal cls owner name desc).before a s' = true := by
  subst he
  simp only [Cond.before, Cond.holds, Cond.value] at h ⊢
  cases h1 : s.vm.findClass cls with
  | none => simp [h1] at h
  | some c =>
    cases h4 : s.fieldFound? cls name desc with
    | none => simp [h1, h4] at h
    | some r =>
      obtain ⟨c', k', j, f⟩ := r
      have q := rg_field u ho h4
      have ec : c = c' := Option.some.inj (h1.symm.trans q.2)
      subst ec
      cases h2 : s.vm.classes[c]? with
      | none => simp [h1, h4, h2] at h
      | some k =>
        simp only [h1, h4, h2, Option.map_some, beq_iff_eq, Option.some.injEq, Bool.and_eq_true] at h
        obtain ⟨⟨⟨⟨⟨e1, e2⟩, e3⟩, e4⟩, e5⟩, e6⟩ := h
        simp only [u.1 _ _ h1, q.1, u.2.1 _ _ h2, Option.map_some, beq_iff_eq, Option.some.injEq, Bool.and_eq_true]
        refine ⟨⟨⟨⟨⟨e1, e2⟩, rg_self _ _⟩, by simp⟩, e5⟩, ?_⟩
        cases hd : Jmm.declares? s.vm f.slot (c + 1) c with
        | none => simp [hd] at e6
        | some r =>
          rw [hd] at e6
          rw [rg_declares u _ _ _ hd]
          exact e6
/-- words that tables with classes more keep; for links and fields: the class that is named declares it -/
def rg_may (s : State) : Cond → Bool
  | .code _ _ _ _ => true
  | .static _ => true
  | .instanceMethod _ => true
  | .privateMethod _ => true
  | .native _ => true
  | .soleField _ _ => true
  | .initialized _ => true
  | .instantiable _ _ => true
  | .superclass _ _ => true
  | .constant _ _ _ => true
  | .constantLong _ _ _ => true
  | .methodLink _ _ x => (s.methodNamed? x).isSome
  | .fieldLink _ _ ref name desc => rg_own s ref name desc
  | .lays cls owner name desc => decide (cls = owner) && rg_own s owner name desc
  | .laysFinal cls owner name desc => decide (cls = owner) && rg_own s owner name desc
  | _ => false
theorem rg_carry (u : rg_up s s') (c : Cond) (hm : rg_may s c = true) (h : c.before a s = true) : c.before a s' = true := by
  cases c
  case code => exact rg_byMethod u h
  case static => exact rg_byMethod u h
  case instanceMethod => exact rg_byMethod u h
  case privateMethod => exact rg_byMethod u h
  case native => exact rg_byMethod u h
  case soleField => exact rg_byClass2 u h
  case initialized => exact rg_byClass u h
  case instantiable => exact rg_byClass u h
  case superclass => exact rg_super u h
  case constant => exact rg_const u h
  case constantLong => exact rg_const u h
  case methodLink => exact rg_mlink u hm h
  case fieldLink => exact rg_flink u hm h
  case lays => exact rg_lays u (of_decide_eq_true (Bool.and_eq_true_iff.mp hm).1) (Bool.and_eq_true_iff.mp hm).2 h
  case laysFinal => exact rg_laysFinal u (of_decide_eq_true (Bool.and_eq_true_iff.mp hm).1) (Bool.and_eq_true_iff.mp hm).2 h
  all_goals exact absurd hm (by simp [rg_may])
end
end
section
/-- a class of the kind 'array of int', not the one called [I: it has a clone of its own, whose code throws (aload_0; athrow) -/
def rg_K : Class := { Lib.HandJ.cls "[rogue" #[] #[] 0x411 #[] #[Lib.HandJ.method "clone" "()Ljava/lang/Object;" [] (some (.object "java/lang/Object")) 0x1 1 ⟨#[0x2a, 0xbf]⟩] #[] with kind := .array 24 .int, super := some 1, cf := none }
/-- the witness's start, but FIRST_MEASURES holds an array of that class -/
def rg_s : State := { start1.about with vm := { start1.about.vm with classes := start1.about.vm.classes.push rg_K }, heap := start1.about.heap.setIfInBounds 7 { cls := 37, slots := #[.int 200, .int 80, .int 150, .int 300, .int 60, .int 0], vm := .none } }
theorem rg_rise : rg_up start1.about rg_s := rg_up_of start1.about rg_K _
theorem rg_word_code : (Cond.code x code maxLocals ret).before start1.args0 rg_s = true := rg_carry rg_rise _ rfl start1.word_code
end
section
set_option maxRecDepth 16384 in
theorem rg_hold_1_0 : ((tables_1_1).take 60).all (fun c => rg_may start1.about c || c.before start1.args0 rg_s) = true := by decide +kernel
set_option maxRecDepth 16384 in
theorem rg_hold_1_1 : (((tables_1_1).drop 60).take 60).all (fun c => rg_may start1.about c || c.before start1.args0 rg_s) = true := by decide +kernel
set_option maxRecDepth 16384 in
theorem rg_hold_1_2 : ((((tables_1_1).drop 60).drop 60).take 60).all (fun c => rg_may start1.about c || c.before start1.args0 rg_s) = true := by decide +kernel
set_option maxRecDepth 16384 in
theorem rg_hold_1_3 : ((((tables_1_1).drop 60).drop 60).drop 60).all (fun c => rg_may start1.about c || c.before start1.args0 rg_s) = true := by decide +kernel
theorem rg_words_1 : ∀ c ∈ tables_1_1, c.before start1.args0 rg_s = true := by
  intro c hc
  have q : tables_1_1.all (fun c => rg_may start1.about c || c.before start1.args0 rg_s) = true := (start1.su_all_split _ 60 (tables_1_1) rg_hold_1_0 (start1.su_all_split _ 60 ((tables_1_1).drop 60) rg_hold_1_1 (start1.su_all_split _ 60 (((tables_1_1).drop 60).drop 60) rg_hold_1_2 rg_hold_1_3)))
  have h := List.all_eq_true.mp q c hc
  rcases Bool.or_eq_true_iff.mp h with h | h
  · exact rg_carry rg_rise c h (start1.words_1 c hc)
  · exact h
end
section
set_option maxRecDepth 16384 in
theorem rg_hold_2_0 : ((tables_1_2).take 60).all (fun c => rg_may start1.about c || c.before start1.args0 rg_s) = true := by decide +kernel
set_option maxRecDepth 16384 in
theorem rg_hold_2_1 : (((tables_1_2).drop 60).take 60).all (fun c => rg_may start1.about c || c.before start1.args0 rg_s) = true := by decide +kernel
set_option maxRecDepth 16384 in
theorem rg_hold_2_2 : ((((tables_1_2).drop 60).drop 60).take 60).all (fun c => rg_may start1.about c || c.before start1.args0 rg_s) = true := by decide +kernel
set_option maxRecDepth 16384 in
theorem rg_hold_2_3 : ((((tables_1_2).drop 60).drop 60).drop 60).all (fun c => rg_may start1.about c || c.before start1.args0 rg_s) = true := by decide +kernel
theorem rg_words_2 : ∀ c ∈ tables_1_2, c.before start1.args0 rg_s = true := by
  intro c hc
  have q : tables_1_2.all (fun c => rg_may start1.about c || c.before start1.args0 rg_s) = true := (start1.su_all_split _ 60 (tables_1_2) rg_hold_2_0 (start1.su_all_split _ 60 ((tables_1_2).drop 60) rg_hold_2_1 (start1.su_all_split _ 60 (((tables_1_2).drop 60).drop 60) rg_hold_2_2 rg_hold_2_3)))
  have h := List.all_eq_true.mp q c hc
  rcases Bool.or_eq_true_iff.mp h with h | h
  · exact rg_carry rg_rise c h (start1.words_2 c hc)
  · exact h
end
section
set_option maxRecDepth 16384 in
theorem rg_hold_3_0 : ((tables_1_3).take 60).all (fun c => rg_may start1.about c || c.before start1.args0 rg_s) = true := by decide +kernel
set_option maxRecDepth 16384 in
theorem rg_hold_3_1 : (((tables_1_3).drop 60).take 60).all (fun c => rg_may start1.about c || c.before start1.args0 rg_s) = true := by decide +kernel
set_option maxRecDepth 16384 in
theorem rg_hold_3_2 : ((((tables_1_3).drop 60).drop 60).take 60).all (fun c => rg_may start1.about c || c.before start1.args0 rg_s) = true := by decide +kernel
set_option maxRecDepth 16384 in
theorem rg_hold_3_3 : ((((tables_1_3).drop 60).drop 60).drop 60).all (fun c => rg_may start1.about c || c.before start1.args0 rg_s) = true := by decide +kernel
theorem rg_words_3 : ∀ c ∈ tables_1_3, c.before start1.args0 rg_s = true := by
  intro c hc
  have q : tables_1_3.all (fun c => rg_may start1.about c || c.before start1.args0 rg_s) = true := (start1.su_all_split _ 60 (tables_1_3) rg_hold_3_0 (start1.su_all_split _ 60 ((tables_1_3).drop 60) rg_hold_3_1 (start1.su_all_split _ 60 (((tables_1_3).drop 60).drop 60) rg_hold_3_2 rg_hold_3_3)))
  have h := List.all_eq_true.mp q c hc
  rcases Bool.or_eq_true_iff.mp h with h | h
  · exact rg_carry rg_rise c h (start1.words_3 c hc)
  · exact h
end
section
set_option maxRecDepth 16384 in
theorem rg_hold_4_0 : ((tables_1_4).take 60).all (fun c => rg_may start1.about c || c.before start1.args0 rg_s) = true := by decide +kernel
set_option maxRecDepth 16384 in
theorem rg_hold_4_1 : (((tables_1_4).drop 60).take 60).all (fun c => rg_may start1.about c || c.before start1.args0 rg_s) = true := by decide +kernel
set_option maxRecDepth 16384 in
theorem rg_hold_4_2 : ((((tables_1_4).drop 60).drop 60).take 60).all (fun c => rg_may start1.about c || c.before start1.args0 rg_s) = true := by decide +kernel
set_option maxRecDepth 16384 in
theorem rg_hold_4_3 : ((((tables_1_4).drop 60).drop 60).drop 60).all (fun c => rg_may start1.about c || c.before start1.args0 rg_s) = true := by decide +kernel
theorem rg_words_4 : ∀ c ∈ tables_1_4, c.before start1.args0 rg_s = true := by
  intro c hc
  have q : tables_1_4.all (fun c => rg_may start1.about c || c.before start1.args0 rg_s) = true := (start1.su_all_split _ 60 (tables_1_4) rg_hold_4_0 (start1.su_all_split _ 60 ((tables_1_4).drop 60) rg_hold_4_1 (start1.su_all_split _ 60 (((tables_1_4).drop 60).drop 60) rg_hold_4_2 rg_hold_4_3)))
  have h := List.all_eq_true.mp q c hc
  rcases Bool.or_eq_true_iff.mp h with h | h
  · exact rg_carry rg_rise c h (start1.words_4 c hc)
  · exact h
end
section
set_option maxRecDepth 16384 in
theorem rg_hold_5_0 : ((tables_1_5).take 60).all (fun c => rg_may start1.about c || c.before start1.args0 rg_s) = true := by decide +kernel
set_option maxRecDepth 16384 in
theorem rg_hold_5_1 : (((tables_1_5).drop 60).take 60).all (fun c => rg_may start1.about c || c.before start1.args0 rg_s) = true := by decide +kernel
set_option maxRecDepth 16384 in
theorem rg_hold_5_2 : ((((tables_1_5).drop 60).drop 60).take 60).all (fun c => rg_may start1.about c || c.before start1.args0 rg_s) = true := by decide +kernel
set_option maxRecDepth 16384 in
theorem rg_hold_5_3 : ((((tables_1_5).drop 60).drop 60).drop 60).all (fun c => rg_may start1.about c || c.before start1.args0 rg_s) = true := by decide +kernel
theorem rg_words_5 : ∀ c ∈ tables_1_5, c.before start1.args0 rg_s = true := by
  intro c hc
  have q : tables_1_5.all (fun c => rg_may start1.about c || c.before start1.args0 rg_s) = true := (start1.su_all_split _ 60 (tables_1_5) rg_hold_5_0 (start1.su_all_split _ 60 ((tables_1_5).drop 60) rg_hold_5_1 (start1.su_all_split _ 60 (((tables_1_5).drop 60).drop 60) rg_hold_5_2 rg_hold_5_3)))
  have h := List.all_eq_true.mp q c hc
  rcases Bool.or_eq_true_iff.mp h with h | h
  · exact rg_carry rg_rise c h (start1.words_5 c hc)
  · exact h
end
section
set_option maxRecDepth 16384 in
theorem rg_hold_6_0 : ((tables_1_6).take 60).all (fun c => rg_may start1.about c || c.before start1.args0 rg_s) = true := by decide +kernel
set_option maxRecDepth 16384 in
theorem rg_hold_6_1 : (((tables_1_6).drop 60).take 60).all (fun c => rg_may start1.about c || c.before start1.args0 rg_s) = true := by decide +kernel
set_option maxRecDepth 16384 in
theorem rg_hold_6_2 : ((((tables_1_6).drop 60).drop 60).take 60).all (fun c => rg_may start1.about c || c.before start1.args0 rg_s) = true := by decide +kernel
set_option maxRecDepth 16384 in
theorem rg_hold_6_3 : ((((tables_1_6).drop 60).drop 60).drop 60).all (fun c => rg_may start1.about c || c.before start1.args0 rg_s) = true := by decide +kernel
theorem rg_words_6 : ∀ c ∈ tables_1_6, c.before start1.args0 rg_s = true := by
  intro c hc
  have q : tables_1_6.all (fun c => rg_may start1.about c || c.before start1.args0 rg_s) = true := (start1.su_all_split _ 60 (tables_1_6) rg_hold_6_0 (start1.su_all_split _ 60 ((tables_1_6).drop 60) rg_hold_6_1 (start1.su_all_split _ 60 (((tables_1_6).drop 60).drop 60) rg_hold_6_2 rg_hold_6_3)))
  have h := List.all_eq_true.mp q c hc
  rcases Bool.or_eq_true_iff.mp h with h | h
  · exact rg_carry rg_rise c h (start1.words_6 c hc)
  · exact h
end
section
set_option maxRecDepth 16384 in
theorem rg_hold_7_0 : ((tables_1_7).take 60).all (fun c => rg_may start1.about c || c.before start1.args0 rg_s) = true := by decide +kernel
set_option maxRecDepth 16384 in
theorem rg_hold_7_1 : (((tables_1_7).drop 60).take 60).all (fun c => rg_may start1.about c || c.before start1.args0 rg_s) = true := by decide +kernel
set_option maxRecDepth 16384 in
theorem rg_hold_7_2 : ((((tables_1_7).drop 60).drop 60).take 60).all (fun c => rg_may start1.about c || c.before start1.args0 rg_s) = true := by decide +kernel
set_option maxRecDepth 16384 in
theorem rg_hold_7_3 : ((((tables_1_7).drop 60).drop 60).drop 60).all (fun c => rg_may start1.about c || c.before start1.args0 rg_s) = true := by decide +kernel
theorem rg_words_7 : ∀ c ∈ tables_1_7, c.before start1.args0 rg_s = true := by
  intro c hc
  have q : tables_1_7.all (fun c => rg_may start1.about c || c.before start1.args0 rg_s) = true := (start1.su_all_split _ 60 (tables_1_7) rg_hold_7_0 (start1.su_all_split _ 60 ((tables_1_7).drop 60) rg_hold_7_1 (start1.su_all_split _ 60 (((tables_1_7).drop 60).drop 60) rg_hold_7_2 rg_hold_7_3)))
  have h := List.all_eq_true.mp q c hc
  rcases Bool.or_eq_true_iff.mp h with h | h
  · exact rg_carry rg_rise c h (start1.words_7 c hc)
  · exact h
end
section
set_option maxRecDepth 16384 in
theorem rg_hold_8_0 : ((tables_1_8).take 60).all (fun c => rg_may start1.about c || c.before start1.args0 rg_s) = true := by decide +kernel
set_option maxRecDepth 16384 in
theorem rg_hold_8_1 : (((tables_1_8).drop 60).take 60).all (fun c => rg_may start1.about c || c.before start1.args0 rg_s) = true := by decide +kernel
set_option maxRecDepth 16384 in
theorem rg_hold_8_2 : ((((tables_1_8).drop 60).drop 60).take 60).all (fun c => rg_may start1.about c || c.before start1.args0 rg_s) = true := by decide +kernel
set_option maxRecDepth 16384 in
theorem rg_hold_8_3 : ((((tables_1_8).drop 60).drop 60).drop 60).all (fun c => rg_may start1.about c || c.before start1.args0 rg_s) = true := by decide +kernel
theorem rg_words_8 : ∀ c ∈ tables_1_8, c.before start1.args0 rg_s = true := by
  intro c hc
  have q : tables_1_8.all (fun c => rg_may start1.about c || c.before start1.args0 rg_s) = true := (start1.su_all_split _ 60 (tables_1_8) rg_hold_8_0 (start1.su_all_split _ 60 ((tables_1_8).drop 60) rg_hold_8_1 (start1.su_all_split _ 60 (((tables_1_8).drop 60).drop 60) rg_hold_8_2 rg_hold_8_3)))
  have h := List.all_eq_true.mp q c hc
  rcases Bool.or_eq_true_iff.mp h with h | h
  · exact rg_carry rg_rise c h (start1.words_8 c hc)
  · exact h
end
section
set_option maxRecDepth 16384 in
theorem rg_hold_9_0 : (tables_1_9).all (fun c => rg_may start1.about c || c.before start1.args0 rg_s) = true := by decide +kernel
theorem rg_words_9 : ∀ c ∈ tables_1_9, c.before start1.args0 rg_s = true := by
  intro c hc
  have q : tables_1_9.all (fun c => rg_may start1.about c || c.before start1.args0 rg_s) = true := rg_hold_9_0
  have h := List.all_eq_true.mp q c hc
  rcases Bool.or_eq_true_iff.mp h with h | h
  · exact rg_carry rg_rise c h (start1.words_9 c hc)
  · exact h
end
section
set_option maxRecDepth 16384 in
theorem rg_words : ∀ c ∈ (Cond.code x code maxLocals ret :: tables_1), c.before start1.args0 rg_s = true := by
  intro c hc
  rcases List.mem_cons.mp hc with h | h
  · rw [h]; exact rg_word_code
  · have h1 : c ∈ tables_1_1 ++ (tables_1_2 ++ (tables_1_3 ++ (tables_1_4 ++ (tables_1_5 ++ (tables_1_6 ++ (tables_1_7 ++ (tables_1_8 ++ tables_1_9))))))) := h
    rcases List.mem_append.mp h1 with h2 | h1
    · exact rg_words_1 c h2
    rcases List.mem_append.mp h1 with h2 | h1
    · exact rg_words_2 c h2
    rcases List.mem_append.mp h1 with h2 | h1
    · exact rg_words_3 c h2
    rcases List.mem_append.mp h1 with h2 | h1
    · exact rg_words_4 c h2
    rcases List.mem_append.mp h1 with h2 | h1
    · exact rg_words_5 c h2
    rcases List.mem_append.mp h1 with h2 | h1
    · exact rg_words_6 c h2
    rcases List.mem_append.mp h1 with h2 | h1
    · exact rg_words_7 c h2
    rcases List.mem_append.mp h1 with h2 | h1
    · exact rg_words_8 c h2
    exact rg_words_9 c h1
set_option maxRecDepth 16384 in
theorem rg_atStart : AtStart classFile x code maxLocals ret World_1 tables_1 room_1 Calls_1 rest_1 Pre_1 launch0 start1.p0 start1.e0 rg_s ⟨0, 0⟩ start1.args0 Lib.HandBits.below0 :=
  ⟨lists_1, trivial, launch0.admits_env _ _ _, launch0.least_env, fairChoices_fair.cas, fairChoices_fair.clock, rfl, by decide +kernel, by decide +kernel,
    (Spec.applies_iff rfl).mpr ⟨rfl, rfl, rfl, by decide +kernel, by decide +kernel, by decide +kernel, launch0.hasRoom_least _ room_1 (by decide +kernel) (by decide +kernel) (by decide +kernel) (by decide +kernel) (by decide +kernel) (by decide +kernel), atoms_intro rg_words⟩,
    trivial, (show rest_1_c.before start1.args0 rg_s = true by decide +kernel), (show (Cond.and given_1 narrow_1).before start1.args0 rg_s = true by decide +kernel)⟩
end
section
def rg_st (n : Nat) : State := stepsAlone start1.p0.tables start1.e0 n rg_s
/-- not ended, as far as frames tell -/
def rg_open (t : State) : Bool := match t.frames with
  | _ :: _ :: _ :: _ => true
  | .throwing _ :: _ => false
  | _ :: _ :: _ => true
  | _ => false
/-- the frame that was below -/
def rg_low : Frame → Bool
  | .native f => f.method.cls == 0 && f.method.idx == 0 && f.args.size == 0 && f.stage == 0 && f.saved.size == 0 && !f.awaiting && f.answer.isNone && f.locked.isNone && f.words == 0
  | _ => false
/-- under way: what was below lies below, and above it more than an exception's note -/
def rg_in (t : State) : Bool := match t.frames.reverse with
  | f :: g :: r => rg_low f && (match g, r with
    | .throwing _, [] => false
    | _, _ => true)
  | _ => false
/-- ended by a throw: the note alone lies above what was below -/
def rg_left (t : State) : Bool := match t.frames with
  | [.throwing _, f] => rg_low f
  | _ => false
set_option maxRecDepth 16384 in
theorem rg_first : (List.range 15).all (fun n => rg_open (rg_st n) && rg_in (rg_st n)) = true := by decide +kernel
set_option maxRecDepth 16384 in
theorem rg_ends : rg_left (rg_st 15) = true := by decide +kernel
set_option maxRecDepth 16384 in
theorem rg_runs : (rg_st 15).status = .running := by decide +kernel
theorem rg_low_inv {f : Frame} (h : rg_low f = true) : f = .native { method := ⟨0, 0⟩, args := #[] } := by
  unfold rg_low at h
  split at h
  · rename_i f
    obtain ⟨⟨c, i⟩, ar, sg, sv, aw, an, lk, wd⟩ := f
    simp only [Bool.and_eq_true, beq_iff_eq, Bool.not_eq_true', Option.isNone_iff_eq_none, Array.size_eq_zero_iff] at h
    obtain ⟨⟨⟨⟨⟨⟨⟨⟨h1, h2⟩, h3⟩, h4⟩, h5⟩, h6⟩, h7⟩, h8⟩, h9⟩ := h
    subst h1 h2 h3 h4 h5 h6 h7 h8 h9
    rfl
  · cases h
theorem rg_left_inv {t : State} (h : rg_left t = true) : ∃ a, t.frames = .throwing a :: Lib.HandBits.below0 := by
  unfold rg_left at h
  split at h
  · rename_i a f q
    refine ⟨a, ?_⟩
    rw [q, rg_low_inv h]
    rfl
  · cases h
theorem rg_in_inv {t : State} (h : rg_in t = true) : Within t Lib.HandBits.below0 := by
  unfold rg_in at h
  split at h
  · rename_i f g r q
    have q' : t.frames = r.reverse ++ [g] ++ [f] := by rw [← List.reverse_reverse t.frames, q]; simp
    simp only [Bool.and_eq_true] at h
    obtain ⟨h1, h2⟩ := h
    refine ⟨r.reverse ++ [g], ?_, by simp, ?_⟩
    · rw [q', rg_low_inv h1]
      rfl
    · intro a e
      cases r with
      | nil =>
        have e : g = .throwing a := by simpa using e
        subst e
        simp at h2
      | cons y z =>
        have e := congrArg List.length e
        simp at e
  · cases h
theorem rg_under (k : Nat) (h : k < 15) : rg_open (rg_st k) = true ∧ rg_in (rg_st k) = true :=
  Bool.and_eq_true_iff.mp (List.all_eq_true.mp rg_first k (List.mem_range.mpr h))
theorem rg_not {t : State} (h : rg_open t = true) (o : Outcome) : ¬ Ended t Lib.HandBits.below0 o := by
  intro q
  cases o with
  | threw a =>
    have q : t.frames = .throwing a :: .native { method := ⟨0, 0⟩, args := #[] } :: [] := q
    simp [rg_open, q] at h
  | returned v =>
    have q : t.frames = .native { method := ⟨0, 0⟩, args := #[], awaiting := false, answer := some (.returned v) } :: [] := q
    simp [rg_open, q] at h
/-- what ends by a throw didn't return -/
theorem rg_threw (args : Array Value) (s : State) (a : Addr) (t : State) : ¬ Post_1_1 start1.p0.tables start1.e0 args s (.threw a) t := by
  intro h
  have h : Cond.returned.after args s (.threw a) t = true := h.1
  simp [Cond.after, Cond.holds, Cond.value] at h
/-- THE STATEMENT'S OWN WORD FOR ITS FALL: a start that meets every premise, and from it a run that ends, but not by returning -/
theorem rg_refuted : RefutedClaimed_1_1 := by
  obtain ⟨a, q⟩ := rg_left_inv rg_ends
  have w : ∀ k, k < 15 → Within (stepsAlone start1.p0.tables start1.e0 k rg_s) Lib.HandBits.below0 := fun k h => rg_in_inv (rg_under k h).2
  have r : (stepsAlone start1.p0.tables start1.e0 15 rg_s).status = .running := rg_runs
  have t : Ended (stepsAlone start1.p0.tables start1.e0 15 rg_s) Lib.HandBits.below0 (.threw a) := q
  exact ⟨launch0, start1.p0, start1.e0, rg_s, ⟨0, 0⟩, start1.args0, Lib.HandBits.below0, rfl, rg_atStart, 15, .threw a, w, r, t, rg_threw start1.args0 rg_s a _⟩
/-- THE STATEMENT IS FALSE: it doesn't say of which class the static array is that the constructor clones -/
theorem rg_false : ¬ Claimed_1_1 := by
  intro h
  obtain ⟨hL, hW, ha, -, hc, hk, hf, hfit, hheap, happ, h1, h2, h3⟩ := rg_atStart
  obtain ⟨n, o, hw, -, hE, hP⟩ := h launch0 rfl hL hW start1.p0 start1.e0 ha hc hk rg_s ⟨0, 0⟩ start1.args0 Lib.HandBits.below0 hf hfit hheap happ ⟨h1, h2, h3⟩
  obtain ⟨a, q⟩ := rg_left_inv rg_ends
  rcases Nat.lt_trichotomy n 15 with g | g | g
  · exact rg_not (rg_under n g).1 o hE
  · subst g
    cases o with
    | threw b => exact rg_threw _ _ b _ hP
    | returned v =>
      have hE : (rg_st 15).frames = .native { method := ⟨0, 0⟩, args := #[], awaiting := false, answer := some (.returned v) } :: [] := hE
      rw [q] at hE
      injection hE with e1 e2
      cases e1
  · obtain ⟨above, e1, e2, e3⟩ := hw 15 g
    have e1 : (rg_st 15).frames = above ++ Lib.HandBits.below0 := e1
    rw [q] at e1
    have e4 : [Frame.throwing a] ++ Lib.HandBits.below0 = above ++ Lib.HandBits.below0 := e1
    exact e3 a (List.append_cancel_right e4).symm
theorem rg_no : ¬ (Claimed_1_1 ∧ Claimed_1_2) := fun h => rg_false h.1
end
