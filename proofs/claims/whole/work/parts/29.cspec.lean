/-! THE CLASS'S STORE -/
def cTn (σ : mS) : Nat := (σ.1 2).toNatClampNeg
def cBn (σ : mS) : Nat := (σ.1 7).toNatClampNeg
def cKin (σ : mS) (a b : Int32) : Int32 := kinF (σ.2 7) (σ.2 5) (cBn σ) (σ.1 7) (σ.2 1 0) a b
def cTak (σ : mS) (p : Int32) : Int32 := takF (σ.2 7) (σ.2 5) (cBn σ) p
def cNew (σ : mS) : Int32 := newF (σ.2 2) (σ.1 0) (cTn σ)
def cMay (σ : mS) (p : Int32) : Int32 := mayF (fun x => σ.2 (20 + p.toNatClampNeg) x) (σ.1 0) (σ.1 3 &&& (cTak σ p ^^^ (-1))) (cTn σ)
/-- sound: things, baskets, whose the baskets are, the share, the day, what is in stock, until when things are tired -/
def cOk (σ : mS) : Prop := (σ.1 2 = nI (cTn σ) ∧ cTn σ ≤ 12) ∧ (σ.1 7 = nI (cBn σ) ∧ cBn σ ≤ 60) ∧ (∀ i, i < cBn σ → ∃ p, p < 8 ∧ σ.2 5 i = nI p) ∧ (∃ s, 1 ≤ s ∧ s ≤ 9 ∧ σ.2 1 2 = nI s) ∧ (∃ d, d ≤ 9999 ∧ σ.1 0 = nI d) ∧ (∃ s, s < 2 ^ cTn σ ∧ σ.1 3 = nI s) ∧ ∀ p x, p < 8 → x < 12 → ∃ v, v ≤ 20000 ∧ σ.2 (20 + p) x = nI v
/-- a number of a thing that there may be -/
def cIx (x : Int32) : Prop := ∃ j, j < 12 ∧ x = nI j
theorem cThing_ix {σ : mS} (h : cOk σ) {x : Int32} (hx : isInF x 0 (σ.1 2 - 1) = true) : ∃ j, j < cTn σ ∧ x = nI j ∧ vp_in x 12 ∧ x.toNatClampNeg = j := by
  obtain ⟨⟨h1, h2⟩, -⟩ := h
  rw [h1] at hx
  obtain ⟨j, hj, rfl⟩ := (isIn_ix (by omega)).mp hx
  exact ⟨j, hj, rfl, (nI_i (n := 12) (by omega) (by omega)).1, nI_clamp (by omega)⟩
theorem cBask_ix {σ : mS} (h : cOk σ) {x : Int32} (hx : isInF x 0 (σ.1 7 - 1) = true) : ∃ j, j < cBn σ ∧ x = nI j ∧ vp_in x 60 ∧ x.toNatClampNeg = j := by
  obtain ⟨-, ⟨h1, h2⟩, -⟩ := h
  rw [h1] at hx
  obtain ⟨j, hj, rfl⟩ := (isIn_ix (by omega)).mp hx
  exact ⟨j, hj, rfl, (nI_i (n := 60) (by omega) (by omega)).1, nI_clamp (by omega)⟩
def konJ6 : Nat → Option Int32 := fun k => match k with
  | 265 => some (1431655765)
  | 266 => some (858993459)
  | 267 => some (252645135)
  | _ => none
def kJ6 (cal : List (Nat × mC)) : mK := (fun _ => none, konJ6, cal)
def kJ9 (cal : List (Nat × mC)) : mK := (fun _ => none, fun _ => none, cal)
theorem oJ6_265 (cal : List (Nat × mC)) : (kJ6 cal).2.1 265 = some (1431655765) := rfl
theorem oJ6_266 (cal : List (Nat × mC)) : (kJ6 cal).2.1 266 = some (858993459) := rfl
theorem oJ6_267 (cal : List (Nat × mC)) : (kJ6 cal).2.1 267 = some (252645135) := rfl
theorem kdX0 : ∀ sl, sl < 15 → hX0.1 sl = none → (TX0 sl).2.2.2 = false ∧ parseFieldDescriptor (TX0 sl).2.2.1 = some .int := by
  have key : ∀ sl, sl < 15 → kindX0 sl = none → (TX0 sl).2.2.2 = false ∧ parseFieldDescriptor (TX0 sl).2.2.1 = some .int := by decide +kernel
  exact key
set_option maxRecDepth 100000 in
theorem tbJ6 (cal : List (Nat × mC)) : mTb hX0 (kJ6 cal) 0 15 vwC RJ6 RX0 TX0 tyX0 := by
  refine ⟨rfl, usX0, tyX0_ok, nmX0, fun j sl hj => (by cases hj), kdX0, ?_⟩
  intro j v hj
  change konJ6 j = some v at hj
  unfold konJ6 at hj
  split at hj
  · cases hj; decide +kernel
  · cases hj; decide +kernel
  · cases hj; decide +kernel
  · cases hj
theorem tbJ9 (cal : List (Nat × mC)) : mTb hX0 (kJ9 cal) 0 15 vwC RJ9 RX0 TX0 tyX0 := ⟨rfl, usX0, tyX0_ok, nmX0, fun j sl hj => (by cases hj), kdX0, fun j v hj => (by cases hj)⟩
