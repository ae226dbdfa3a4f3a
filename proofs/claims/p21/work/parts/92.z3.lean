def z_f (n : Nat) : State := stepsAlone start1.p0.tables start1.e0 n z_about
/-- the law's invocation, above the frame that it was made from, hasn't ended -/
def z_in (s : State) : Bool := match s.frames with
  | [] => false
  | [_] => false
  | .throwing _ :: _ :: [] => false
  | _ => true
set_option maxRecDepth 16384 in
theorem z_before : (List.range 11).all (fun n => z_in (z_f n)) = true := by decide +kernel
set_option maxRecDepth 16384 in
theorem z_stop : ¬ (z_f 11).status = .running := by decide +kernel
theorem z_out {s : State} {o : Outcome} (h : z_in s = true) : ¬ Ended s Lib.HandBits.below0 o := by
  intro he
  cases o with
  | threw a =>
    have h1 : s.frames = .throwing a :: Lib.HandBits.below0 := he
    unfold z_in at h
    rw [h1] at h
    cases h
  | returned v =>
    obtain ⟨f, h1⟩ : ∃ f : Frame, s.frames = [f] := ⟨_, he⟩
    unfold z_in at h
    rw [h1] at h
    cases h
theorem z_stay {tb : Tables} {e : Env} {s : State} (h : ¬ s.status = .running) : ∀ n : Nat, stepsAlone tb e n s = s
  | 0 => rfl
  | n + 1 => by
    unfold stepsAlone
    split
    · next h1 _ _ => exact absurd h1 h
    · rfl
theorem z_late {n : Nat} (h : 11 ≤ n) : z_f n = z_f 11 := by
  obtain ⟨j, rfl⟩ := Nat.exists_eq_add_of_le h
  unfold z_f
  rw [stepsAlone_add]
  exact z_stay z_stop j
/-- THE OWED STATEMENT'S FIRST HALF IS FALSE -/
theorem z_false : ¬ Claimed_1_1 := by
  intro h
  obtain ⟨hL, hW, ha, -, hc, hk, hf, haf, hhf, happ, hca, hre, hpr⟩ := z_atStart
  obtain ⟨n, o, hw, hs, he, -⟩ := h launch0 rfl hL hW start1.p0 start1.e0 ha hc hk z_about ⟨0, 0⟩ start1.args0 Lib.HandBits.below0 hf haf hhf happ ⟨hca, hre, hpr⟩
  rcases Nat.lt_or_ge n 11 with h1 | h1
  · exact z_out (List.all_eq_true.mp z_before n (List.mem_range.mpr h1)) he
  · have e : (z_f n).status = .running := hs
    rw [z_late h1] at e
    exact z_stop e
theorem z_not_owed : ¬ (Claimed_1_1 ∧ Claimed_1_2) := fun h => z_false h.1
/-- beside it: from the printed witness's own start, where FIRST_SETTINGS is a row of the class called [I, the machine goes on past the clone -/
def z_g (n : Nat) : State := stepsAlone start1.p0.tables start1.e0 n start1.about
set_option maxRecDepth 16384 in
theorem z_goes : (z_g 60).status = .running := by decide +kernel
