/-! THE FRESH STORES -/
def c0S : mS := (fun _ => 0, fun a j => if a = 1 then (if j = 0 then 2 else if j = 1 then 2 else 3) else 0)
def m0S : mS := (fun k => if k = 3 then 2 else if k = 4 then 2 else if k = 5 then 3 else if k = 6 then 3 else 0, fun _ _ => 0)
theorem m0_tn : mTn m0S = 0 := by decide +kernel
theorem m0_bn : mBn m0S = 0 := by decide +kernel
theorem rc_fresh : RC c0S m0S := by
  refine ⟨⟨rfl, rfl, rfl, rfl⟩, ⟨rfl, rfl, rfl, rfl⟩, ⟨rfl, rfl, rfl, rfl, rfl, rfl⟩, ?_, ?_⟩
  · intro p x hp hx
    have n1 : ¬ 12 + p = 1 := by omega
    have n2 : ¬ 20 + p = 1 := by omega
    simp [c0S, m0S, n1, n2]
  · intro s x hs hx
    rw [m0_tn]
    show bt 0 x = _
    rw [b_0]
    simp
theorem inv_fresh : Inv m0S := by
  refine ⟨⟨⟨?_, by rw [m0_tn]; omega⟩, ⟨?_, by rw [m0_bn]; omega⟩, fun i hi => ?_, ?_⟩, ⟨3, by omega, by omega, rfl⟩, ⟨0, by omega, rfl⟩, ⟨0, Nat.one_le_two_pow, rfl⟩, fun p x _ _ => ⟨0, by omega, rfl⟩, fun i hi => ?_, fun p x _ _ _ => ⟨rfl, rfl⟩⟩
  · rw [m0_tn]; rfl
  · rw [m0_bn]; rfl
  · rw [m0_bn] at hi; omega
  · show ¬ (3 : Int32) = 0
    decide
  · rw [m0_bn] at hi; omega
