def gap_done (L : Nat) (s : State) : Bool := match s.frames with
  | .throwing _ :: r => r.length == L
  | _ => false
/-- over these steps the invocation's own frames lie on the stack, and at last an exception has left it -/
def gap_ok (tb : Tables) (e : Env) (L : Nat) : Nat → State → Bool
  | 0, s => gap_done L s
  | n + 1, s => gap_done L s || (decide (L < s.frames.length) && (match s.status, s.curStatus?, s.alone with
    | .running, some .runnable, true => gap_ok tb e L n (stepThread tb e s).1
    | _, _, _ => true))
theorem gap_len {s : State} {below : List Frame} {v : Option Value} (h : Ended s below (.returned v)) : s.frames.length = below.length := by
  have two : ∀ {g : Frame} {r : List Frame}, (∃ f, s.frames = f :: r) → s.frames.length = (g :: r).length := fun {g r} h => by
    obtain ⟨f, h⟩ := h
    rw [h]
    rfl
  have one : ∀ {l : List Frame}, (v = none ∧ s.frames = l) → s.frames.length = l.length := fun {l} h => by rw [h.2]
  cases below with
  | nil => exact one h
  | cons g r =>
    cases g with
    | java g =>
      obtain ⟨c, i, len, -, -, h⟩ := h
      exact two ⟨_, h⟩
    | native g => exact two ⟨_, h⟩
    | proc g => exact two ⟨_, h⟩
    | _ => exact one h
theorem gap_doneL {L : Nat} {s : State} (h : gap_done L s = true) : ∃ a r, s.frames = .throwing a :: r ∧ r.length = L := by
  unfold gap_done at h
  split at h
  · rename_i a r q
    exact ⟨a, r, q, by simpa using h⟩
  · cases h
theorem gap_end {s : State} {below : List Frame} {v : Option Value} (h : gap_done below.length s = true) : ¬ Ended s below (.returned v) ∧ ¬ Within s below := by
  obtain ⟨a, r, h1, h2⟩ := gap_doneL h
  refine ⟨fun q => ?_, fun q => ?_⟩
  · have := gap_len q
    rw [h1, List.length_cons] at this
    omega
  · obtain ⟨above, q1, q2, q3⟩ := q
    rw [h1] at q1
    cases above with
    | nil => exact q2 rfl
    | cons x w =>
      have e := List.cons.inj q1
      have : w.length = 0 := by
        have h9 : r.length = (w ++ below).length := congrArg List.length e.2
        rw [List.length_append] at h9
        omega
      have hw : w = [] := List.length_eq_zero_iff.mp this
      exact q3 a (by rw [hw, e.1])
theorem gap_no {tb : Tables} {e : Env} {below : List Frame} {v : Option Value} : ∀ (N : Nat) (s : State), gap_ok tb e below.length N s = true → ∀ n, (∀ k, k < n → Within (stepsAlone tb e k s) below) → ¬ Ended (stepsAlone tb e n s) below (.returned v) := by
  have hd : ∀ (s : State), gap_done below.length s = true → ∀ n, (∀ k, k < n → Within (stepsAlone tb e k s) below) → ¬ Ended (stepsAlone tb e n s) below (.returned v) := fun s h n hw h2 => by
    cases n with
    | zero => exact (gap_end h).1 h2
    | succ n => exact (gap_end (v := v) h).2 (hw 0 (by omega))
  intro N
  induction N with
  | zero => exact fun s h => hd s h
  | succ N ih =>
    intro s h n hw h2
    unfold gap_ok at h
    rw [Bool.or_eq_true] at h
    rcases h with h | h
    · exact hd s h n hw h2
    rw [Bool.and_eq_true, decide_eq_true_iff] at h
    obtain ⟨hl, hn⟩ := h
    cases n with
    | zero =>
      have := gap_len h2
      unfold stepsAlone at this
      omega
    | succ n =>
      have h0 : (∃ z, stepsAlone tb e (n + 1) s = z ∧ z = s) ∨ (gap_ok tb e below.length N (stepThread tb e s).1 = true ∧ ∀ k, stepsAlone tb e (k + 1) s = stepsAlone tb e k (stepThread tb e s).1) := by
        cases q1 : s.status with
        | running =>
          cases q2 : s.curStatus? with
          | none => exact Or.inl ⟨_, rfl, by unfold stepsAlone; rw [q1, q2]⟩
          | some t =>
            cases q3 : s.alone with
            | false => exact Or.inl ⟨_, rfl, by unfold stepsAlone; rw [q1, q2, q3]; cases t <;> rfl⟩
            | true =>
              cases t with
              | runnable =>
                rw [q1, q2, q3] at hn
                exact Or.inr ⟨hn, fun k => by show (match s.status, s.curStatus?, s.alone with
                  | .running, some .runnable, true => stepsAlone tb e k (stepThread tb e s).1
                  | _, _, _ => s) = stepsAlone tb e k (stepThread tb e s).1; rw [q1, q2, q3]⟩
              | _ => exact Or.inl ⟨_, rfl, by unfold stepsAlone; rw [q1, q2, q3]⟩
        | _ => exact Or.inl ⟨_, rfl, by unfold stepsAlone; rw [q1]⟩
      rcases h0 with ⟨z, e1, e2⟩ | ⟨h3, h4⟩
      · rw [e1, e2] at h2
        have := gap_len h2
        omega
      · refine ih _ h3 n (fun k hk => ?_) (by rw [← h4]; exact h2)
        rw [← h4]
        exact hw (k + 1) (by omega)
