def rg_st (n : Nat) : State := stepsAlone start1.p0.tables start1.e0 n rg_s
/-- not ended, as far as frames tell -/
def rg_open (t : State) : Bool := match t.frames with
  | _ :: _ :: _ :: _ => true
  | .throwing _ :: _ => false
  | _ :: _ :: _ => true
  | _ => false
/-- the frame that was below -/
def rg_low : Frame → Bool
  | .native f => f.method.cls == 0 && f.method.idx == 0 && f.args.size == 0 && f.stage == 0 && f.saved.size == 0 && !f.awaiting && f.answer.isNone && f.locked.isNone && f.words == 0
  | _ => false
/-- under way: what was below lies below, and above it more than an exception's note -/
def rg_in (t : State) : Bool := match t.frames.reverse with
  | f :: g :: r => rg_low f && (match g, r with
    | .throwing _, [] => false
    | _, _ => true)
  | _ => false
/-- ended by a throw: the note alone lies above what was below -/
def rg_left (t : State) : Bool := match t.frames with
  | [.throwing _, f] => rg_low f
  | _ => false
set_option maxRecDepth 16384 in
theorem rg_first : (List.range 15).all (fun n => rg_open (rg_st n) && rg_in (rg_st n)) = true := by decide +kernel
set_option maxRecDepth 16384 in
theorem rg_ends : rg_left (rg_st 15) = true := by decide +kernel
set_option maxRecDepth 16384 in
theorem rg_runs : (rg_st 15).status = .running := by decide +kernel
theorem rg_low_inv {f : Frame} (h : rg_low f = true) : f = .native { method := ⟨0, 0⟩, args := #[] } := by
  unfold rg_low at h
  split at h
  · rename_i f
    obtain ⟨⟨c, i⟩, ar, sg, sv, aw, an, lk, wd⟩ := f
    simp only [Bool.and_eq_true, beq_iff_eq, Bool.not_eq_true', Option.isNone_iff_eq_none, Array.size_eq_zero_iff] at h
    obtain ⟨⟨⟨⟨⟨⟨⟨⟨h1, h2⟩, h3⟩, h4⟩, h5⟩, h6⟩, h7⟩, h8⟩, h9⟩ := h
    subst h1 h2 h3 h4 h5 h6 h7 h8 h9
    rfl
  · cases h
theorem rg_left_inv {t : State} (h : rg_left t = true) : ∃ a, t.frames = .throwing a :: Lib.HandBits.below0 := by
  unfold rg_left at h
  split at h
  · rename_i a f q
    refine ⟨a, ?_⟩
    rw [q, rg_low_inv h]
    rfl
  · cases h
theorem rg_in_inv {t : State} (h : rg_in t = true) : Within t Lib.HandBits.below0 := by
  unfold rg_in at h
  split at h
  · rename_i f g r q
    have q' : t.frames = r.reverse ++ [g] ++ [f] := by rw [← List.reverse_reverse t.frames, q]; simp
    simp only [Bool.and_eq_true] at h
    obtain ⟨h1, h2⟩ := h
    refine ⟨r.reverse ++ [g], ?_, by simp, ?_⟩
    · rw [q', rg_low_inv h1]
      rfl
    · intro a e
      cases r with
      | nil =>
        have e : g = .throwing a := by simpa using e
        subst e
        simp at h2
      | cons y z =>
        have e := congrArg List.length e
        simp at e
  · cases h
theorem rg_under (k : Nat) (h : k < 15) : rg_open (rg_st k) = true ∧ rg_in (rg_st k) = true :=
  Bool.and_eq_true_iff.mp (List.all_eq_true.mp rg_first k (List.mem_range.mpr h))
theorem rg_not {t : State} (h : rg_open t = true) (o : Outcome) : ¬ Ended t Lib.HandBits.below0 o := by
  intro q
  cases o with
  | threw a =>
    have q : t.frames = .throwing a :: .native { method := ⟨0, 0⟩, args := #[] } :: [] := q
    simp [rg_open, q] at h
  | returned v =>
    have q : t.frames = .native { method := ⟨0, 0⟩, args := #[], awaiting := false, answer := some (.returned v) } :: [] := q
    simp [rg_open, q] at h
/-- what ends by a throw didn't return -/
theorem rg_threw (args : Array Value) (s : State) (a : Addr) (t : State) : ¬ Post_1_1 start1.p0.tables start1.e0 args s (.threw a) t := by
  intro h
  have h : Cond.returned.after args s (.threw a) t = true := h.1
  simp [Cond.after, Cond.holds, Cond.value] at h
/-- THE STATEMENT'S OWN WORD FOR ITS FALL: a start that meets every premise, and from it a run that ends, but not by returning -/
theorem rg_refuted : RefutedClaimed_1_1 := by
  obtain ⟨a, q⟩ := rg_left_inv rg_ends
  have w : ∀ k, k < 15 → Within (stepsAlone start1.p0.tables start1.e0 k rg_s) Lib.HandBits.below0 := fun k h => rg_in_inv (rg_under k h).2
  have r : (stepsAlone start1.p0.tables start1.e0 15 rg_s).status = .running := rg_runs
  have t : Ended (stepsAlone start1.p0.tables start1.e0 15 rg_s) Lib.HandBits.below0 (.threw a) := q
  exact ⟨launch0, start1.p0, start1.e0, rg_s, ⟨0, 0⟩, start1.args0, Lib.HandBits.below0, rfl, rg_atStart, 15, .threw a, w, r, t, rg_threw start1.args0 rg_s a _⟩
/-- THE STATEMENT IS FALSE: it doesn't say of which class the static array is that the constructor clones -/
theorem rg_false : ¬ Claimed_1_1 := by
  intro h
  obtain ⟨hL, hW, ha, -, hc, hk, hf, hfit, hheap, happ, h1, h2, h3⟩ := rg_atStart
  obtain ⟨n, o, hw, -, hE, hP⟩ := h launch0 rfl hL hW start1.p0 start1.e0 ha hc hk rg_s ⟨0, 0⟩ start1.args0 Lib.HandBits.below0 hf hfit hheap happ ⟨h1, h2, h3⟩
  obtain ⟨a, q⟩ := rg_left_inv rg_ends
  rcases Nat.lt_trichotomy n 15 with g | g | g
  · exact rg_not (rg_under n g).1 o hE
  · subst g
    cases o with
    | threw b => exact rg_threw _ _ b _ hP
    | returned v =>
      have hE : (rg_st 15).frames = .native { method := ⟨0, 0⟩, args := #[], awaiting := false, answer := some (.returned v) } :: [] := hE
      rw [q] at hE
      injection hE with e1 e2
      cases e1
  · obtain ⟨above, e1, e2, e3⟩ := hw 15 g
    have e1 : (rg_st 15).frames = above ++ Lib.HandBits.below0 := e1
    rw [q] at e1
    have e4 : [Frame.throwing a] ++ Lib.HandBits.below0 = above ++ Lib.HandBits.below0 := e1
    exact e3 a (List.append_cancel_right e4).symm
theorem rg_no : ¬ (Claimed_1_1 ∧ Claimed_1_2) := fun h => rg_false h.1
