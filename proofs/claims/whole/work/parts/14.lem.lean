theorem isIn_ix {x : Int32} {n : Nat} (hn : n ≤ 1000) : isInF x 0 (nI n - 1) = true ↔ ∃ j, j < n ∧ x = nI j := by
  unfold isInF
  rw [Bool.and_eq_true, decide_eq_true_eq, decide_eq_true_eq, Int32.le_iff_toInt_le, Int32.le_iff_toInt_le]
  have e : (nI n - 1).toInt = (n : Int) - 1 := by
    have := pk_sub_toInt (a := n) (b := 1) (by omega) (by omega)
    exact this
  rw [e, Int32.toInt_zero]
  constructor
  · rintro ⟨h1, h2⟩
    obtain ⟨j, hj, rfl⟩ := nI_of (x := x) (by rw [Int32.lt_iff_toInt_lt, Int32.toInt_zero]; omega)
    rw [nI_toInt hj] at h2
    exact ⟨j, by omega, rfl⟩
  · rintro ⟨j, hj, rfl⟩
    rw [nI_toInt (by omega)]
    omega
theorem isP_ix {x : Int32} : isInF x 0 7 = true ↔ ∃ j, j < 8 ∧ x = nI j := by
  have := isIn_ix (x := x) (n := 8) (by omega)
  rwa [show nI 8 - 1 = 7 by decide +kernel] at this
theorem nI_i {j n : Nat} (h : j < n) (hn : n ≤ 1000) : vp_in (nI j) n ∧ (nI j).toNatClampNeg = j := ⟨vp_in_nI h (by omega), nI_clamp (by omega)⟩
theorem nI_inj {a b : Nat} (ha : a < 1000) (hb : b < 1000) (h : nI a = nI b) : a = b := (nI_eq (by omega) (by omega)).mp h
theorem mThing_ix {σ : mS} (h : mOk σ) {x : Int32} (hx : isInF x 0 (σ.1 0 - 1) = true) : ∃ j, j < mTn σ ∧ x = nI j ∧ vp_in x 12 ∧ x.toNatClampNeg = j := by
  obtain ⟨⟨h1, h2⟩, -⟩ := h
  rw [h1] at hx
  obtain ⟨j, hj, rfl⟩ := (isIn_ix (by omega)).mp hx
  exact ⟨j, hj, rfl, (nI_i (n := 12) (by omega) (by omega)).1, nI_clamp (by omega)⟩
theorem mPers_ix {x : Int32} (hx : isInF x 0 7 = true) : ∃ j, j < 8 ∧ x = nI j ∧ vp_in x 8 ∧ x.toNatClampNeg = j := by
  obtain ⟨j, hj, rfl⟩ := isP_ix.mp hx
  exact ⟨j, hj, rfl, (nI_i (n := 8) hj (by omega)).1, nI_clamp (by omega)⟩
theorem mBask_ix {σ : mS} (h : mOk σ) {x : Int32} (hx : isInF x 0 (σ.1 2 - 1) = true) : ∃ j, j < mBn σ ∧ x = nI j ∧ vp_in x 60 ∧ x.toNatClampNeg = j := by
  obtain ⟨-, ⟨h1, h2⟩, -⟩ := h
  rw [h1] at hx
  obtain ⟨j, hj, rfl⟩ := (isIn_ix (by omega)).mp hx
  exact ⟨j, hj, rfl, (nI_i (n := 60) (by omega) (by omega)).1, nI_clamp (by omega)⟩
/-- an index into rows of twelve -/
theorem nI_row {p x : Nat} (hp : p < 8) (hx : x < 12) : 12 * nI p + nI x = nI (12 * p + x) ∧ vp_in (nI (12 * p + x)) 96 ∧ (nI (12 * p + x)).toNatClampNeg = 12 * p + x := by
  refine ⟨?_, (nI_i (n := 96) (by omega) (by omega)).1, nI_clamp (by omega)⟩
  rw [show (12 : Int32) = nI 12 from rfl, pk_mul, nI_add]
