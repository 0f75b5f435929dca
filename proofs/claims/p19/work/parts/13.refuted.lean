def rg_st (n : Nat) : State := stepsAlone start1.p0.tables start1.e0 n rg_s
/-- not ended, as far as frames tell: above what was below lies a frame that isn't an exception's -/
def rg_open (t : State) : Bool := match t.frames with
  | .throwing _ :: _ => false
  | _ :: _ :: _ => true
  | _ => false
set_option maxRecDepth 16384 in
theorem rg_first : (List.range 11).all (fun n => rg_open (rg_st n)) = true := by decide +kernel
set_option maxRecDepth 16384 in
theorem rg_halts : ¬ (rg_st 11).status = .running := by decide +kernel
theorem rg_held (tb : Tables) (e : Env) {t : State} (h : ¬ t.status = .running) : ∀ k, stepsAlone tb e k t = t := by
  intro k
  cases k with
  | zero => rfl
  | succ k =>
    show (match t.status, t.curStatus?, t.alone with
      | .running, some .runnable, true => stepsAlone tb e k (stepThread tb e t).1
      | _, _, _ => t) = t
    split
    · rename_i q _ _
      exact absurd q h
    · rfl
/-- after any number of steps: not ended, or stopped -/
theorem rg_all (n : Nat) : rg_open (rg_st n) = true ∨ ¬ (rg_st n).status = .running := by
  rcases Nat.lt_or_ge n 11 with h | h
  · exact Or.inl (List.all_eq_true.mp rg_first n (List.mem_range.mpr h))
  · obtain ⟨k, rfl⟩ : ∃ k, n = 11 + k := ⟨n - 11, by omega⟩
    have e : rg_st (11 + k) = rg_st 11 := by
      show stepsAlone _ _ (11 + k) rg_s = _
      rw [stepsAlone_add]
      exact rg_held _ _ rg_halts k
    rw [e]
    exact Or.inr rg_halts
theorem rg_not {t : State} (h : rg_open t = true) (o : Outcome) : ¬ Ended t Lib.HandBits.below0 o := by
  intro q
  cases o with
  | threw a =>
    have q : t.frames = .throwing a :: Lib.HandBits.below0 := q
    simp [rg_open, q] at h
  | returned v =>
    have q : t.frames = .native { method := ⟨0, 0⟩, args := #[], awaiting := false, answer := some (.returned v) } :: [] := q
    simp [rg_open, q] at h
/-- THE STATEMENT IS FALSE: it doesn't say of which class the static array is that the constructor clones -/
theorem rg_false : ¬ Claimed_1_1 := by
  intro h
  obtain ⟨hL, hW, ha, -, hc, hk, hf, hfit, hheap, happ, h1, h2, h3⟩ := rg_atStart
  obtain ⟨n, o, -, hs, hE, -⟩ := h launch0 rfl hL hW start1.p0 start1.e0 ha hc hk rg_s ⟨0, 0⟩ start1.args0 Lib.HandBits.below0 hf hfit hheap happ ⟨h1, h2, h3⟩
  rcases rg_all n with q | q
  · exact rg_not q o hE
  · exact q hs
theorem rg_no : ¬ (Claimed_1_1 ∧ Claimed_1_2) := fun h => rg_false h.1
