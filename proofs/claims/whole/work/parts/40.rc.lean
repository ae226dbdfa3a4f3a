/-! THE TWO STORES, SIDE BY SIDE: σ the class's, m the model's -/
def RC (σ m : mS) : Prop := (σ.1 0 = m.1 1 ∧ σ.1 2 = m.1 0 ∧ σ.1 3 = m.1 7 ∧ σ.1 7 = m.1 2) ∧ (σ.2 1 0 = m.1 3 ∧ σ.2 1 1 = m.1 4 ∧ σ.2 1 2 = m.1 5 ∧ σ.2 1 3 = m.1 6) ∧ (σ.2 2 = m.2 2 ∧ σ.2 4 = m.2 3 ∧ σ.2 5 = m.2 4 ∧ σ.2 6 = m.2 5 ∧ σ.2 7 = m.2 6 ∧ σ.2 8 = m.2 7) ∧ (∀ p x, p < 8 → x < 12 → σ.2 (12 + p) x = m.2 8 (12 * p + x) ∧ σ.2 (20 + p) x = m.2 9 (12 * p + x)) ∧ (∀ s x, s < 4 → x < 12 → bt (σ.2 3 s) x = (decide (x < mTn m) && decide (m.2 1 x = nI s)))
/-- the model's store is such as calls make it -/
def Inv (m : mS) : Prop := mOk m ∧ (∃ s, 1 ≤ s ∧ s ≤ 9 ∧ m.1 5 = nI s) ∧ (∃ d, d ≤ 9999 ∧ m.1 1 = nI d) ∧ (∃ s, s < 2 ^ mTn m ∧ m.1 7 = nI s) ∧ (∀ p x, p < 8 → x < 12 → ∃ v, v ≤ 20000 ∧ m.2 9 (12 * p + x) = nI v) ∧ (∀ i, i < mBn m → ∃ s, s < 2 ^ mTn m ∧ m.2 6 i = nI s) ∧ (∀ p x, p < 8 → mTn m ≤ x → x < 12 → m.2 8 (12 * p + x) = 0 ∧ m.2 9 (12 * p + x) = 0)
section MRC
variable {σ m : mS}
theorem rc_tn (h : RC σ m) : cTn σ = mTn m := by unfold cTn mTn; rw [h.1.2.1]
theorem rc_bn (h : RC σ m) : cBn σ = mBn m := by unfold cBn mBn; rw [h.1.2.2.2]
theorem rc_ok (h : RC σ m) (hi : Inv m) : cOk σ := by
  obtain ⟨⟨o1, o2, o3, -⟩, i1, i2, i3, i4, -⟩ := hi
  refine ⟨?_, ?_, ?_, ?_, ?_, ?_, ?_⟩
  · rw [rc_tn h, h.1.2.1]; exact o1
  · rw [rc_bn h, h.1.2.2.2]; exact o2
  · rw [rc_bn h, h.2.2.1.2.2.1]; exact o3
  · rw [h.2.1.2.2.1]; exact i1
  · rw [h.1.1]; exact i2
  · rw [rc_tn h, h.1.2.2.1]; exact i3
  · intro p x hp hx
    rw [(h.2.2.2.1 p x hp hx).2]
    exact i4 p x hp hx
theorem rc_kin (h : RC σ m) : cKin σ = mKin m := by
  funext a b
  unfold cKin mKin
  rw [rc_bn h, h.1.2.2.2, h.2.1.1, h.2.2.1.2.2.1, h.2.2.1.2.2.2.2.1]
theorem rc_tak (h : RC σ m) : cTak σ = mTak m := by
  funext p
  unfold cTak mTak
  rw [rc_bn h, h.2.2.1.2.2.1, h.2.2.1.2.2.2.2.1]
theorem rc_new (h : RC σ m) : cNew σ = mNew m := by
  unfold cNew mNew
  rw [rc_tn h, h.1.1, h.2.2.1.1]
theorem rc_sco (h : RC σ m) : cSco σ = mSco m := by
  funext p x
  unfold cSco mSco
  rw [rc_kin h, rc_tak h, rc_tn h]
theorem rc_may (h : RC σ m) (ht : mTn m ≤ 12) {p : Nat} (hp : p < 8) : cMay σ (nI p) = mMay m (nI p) := by
  unfold cMay mMay
  rw [rc_tn h, rc_tak h, h.1.1, h.1.2.2.1, nI_clamp (by omega)]
  exact mayF_cong (fun x hx => (h.2.2.2.1 p x hp (by omega)).2)
theorem rc_th (h : RC σ m) (x : Int32) : cTh σ x = mTh m x := by
  unfold cTh mTh
  rw [h.1.2.1]
/-- what is asked and not changed is answered alike -/
theorem eq_look (h : RC σ m) (w : Int32) : cLookF σ w = mLookF m w := by
  unfold cLookF mLookF
  rw [h.1.1, h.1.2.1, h.1.2.2.1, h.1.2.2.2, h.2.1.1, h.2.1.2.1, h.2.1.2.2.1, h.2.1.2.2.2, rc_new h]
theorem eq_of (h : RC σ m) (i w : Int32) : cOfF σ i w = mOfF m i w := by
  unfold cOfF mOfF
  rw [h.1.2.2.2, h.2.2.1.2.2.1, h.2.2.1.2.2.2.1, h.2.2.1.2.2.2.2.1]
theorem eq_count (h : RC σ m) (a b w : Int32) : cCountF σ a b w = mCountF m a b w := by
  unfold cCountF mCountF
  rw [rc_th h, rc_th h, rc_bn h, h.2.2.1.2.2.1, h.2.2.1.2.2.2.2.1]
theorem eq_kin (h : RC σ m) (a b : Int32) : cKinF σ a b = mKinF m a b := by
  unfold cKinF mKinF
  rw [rc_th h, rc_th h, rc_kin h]
theorem eq_near (h : RC σ m) (a i : Int32) : (cNearF σ a i).1 = mNearF m a i := by
  have e : cOth σ a = mOth m a := by unfold cOth mOth; rw [h.1.2.1]
  unfold cNearF mNearF
  rw [rc_th h, h.1.2.1, rc_kin h, rc_tn h, e]
  by_cases q : mTh m a = true ∧ isInF i 0 (m.1 0 - 2) = true
  · rw [if_pos q, if_pos q]
  · rw [if_neg q, if_neg q]
theorem eq_shown (h : RC σ m) (hi : Inv m) (p x w : Int32) : cShownF σ p x w = mShownF m p x w := by
  unfold cShownF mShownF
  by_cases hp : isInF p 0 7 = true
  · rw [if_pos hp, if_pos hp, rc_th h, h.2.2.1.2.2.2.2.2]
    obtain ⟨p, hp1, rfl, -, hp3⟩ := mPers_ix hp
    by_cases hx : mTh m x = true
    · obtain ⟨j, hj, rfl, -, hx3⟩ := mThing_ix hi.1 hx
      have hn := hi.1.1.2
      obtain ⟨r1, r2⟩ := h.2.2.2.1 p j hp1 (by omega)
      unfold cTir
      rw [hp3, hx3, r1, r2, h.1.1]
    · simp [hx]
  · rw [if_neg hp, if_neg hp]
theorem tak_small {st ow : Nat → Int32} {n t : Nat} (hs : ∀ i, i < n → ∃ s, s < 2 ^ t ∧ st i = nI s) (p : Int32) {k : Nat} (h1 : t ≤ k) (h2 : k < 32) : bt (takF st ow n p) k = false := by
  unfold takF
  rw [bt_orN]
  have : anyN (fun i => bt (if ow i = p then st i else 0) k) n = anyN (fun _ => false) n := anyN_cong (fun i hi => by
    obtain ⟨s, hs1, hs2⟩ := hs i hi
    by_cases q : ow i = p
    · rw [if_pos q, hs2]; exact bt_small hs1 h1 h2
    · rw [if_neg q, b_0])
  rw [this]
  clear this hs
  induction n with
  | zero => rfl
  | succ n ih => unfold anyN; rw [ih]; rfl
theorem eq_why (h : RC σ m) (hi : Inv m) (p x w : Int32) : (cWhyF σ p x w).1 = mWhyF m p x w := by
  have hn := hi.1.1.2
  have e1 : cWhyS σ p x = mWhyS m p x := by unfold cWhyS mWhyS; rw [rc_tak h]
  have e2 : cWhyB σ p x = bst0 (mWhyB m p x) := by
    unfold cWhyB mWhyB
    rw [e1, rc_kin h, rc_tn h]
  have key : ¬ mWhyS m p x = 0 ↔ ¬ mWhyB m p x = -1 := by
    constructor
    · intro q
      have : ∃ k, k < 32 ∧ bt (mWhyS m p x) k = true := by
        refine Classical.byContradiction fun z => q (b_ext (fun k hk => ?_))
        rw [b_0, Bool.eq_false_iff]
        exact fun y => z ⟨k, hk, y⟩
      obtain ⟨k, hk, hb⟩ := this
      have hkt : k < mTn m := by
        refine Classical.byContradiction fun z => ?_
        unfold mWhyS at hb
        rw [b_and, Bool.and_eq_true] at hb
        have h3 := hb.1
        unfold mTak at h3
        rw [tak_small hi.2.2.2.2.2.1 p (Nat.not_lt.mp z) hk] at h3
        exact absurd h3 (by decide)
      exact bst_some hkt hn (by rw [hB_bt (by omega)]; exact hb)
    · intro q z
      rcases bst_ix (mKin m x) (mWhyS m p x) (mTn m) with y | ⟨j, hj, y, hy⟩
      · exact q y
      · rw [z, hB_bt (by omega), b_0] at hy
        exact absurd hy (by decide)
  have e3 : ¬ mWhyB m p x = -1 → bst0 (mWhyB m p x) = mWhyB m p x := fun q => by unfold bst0; rw [if_neg q]
  have hw : isInF w 0 2 = true ↔ w = 0 ∨ w = 1 ∨ w = 2 := by
    have := isIn_ix (x := w) (n := 3) (by omega)
    rw [show nI 3 - 1 = 2 by decide +kernel] at this
    rw [this]
    constructor
    · rintro ⟨j, hj, rfl⟩
      rcases (show j = 0 ∨ j = 1 ∨ j = 2 by omega) with rfl | rfl | rfl
      · exact Or.inl rfl
      · exact Or.inr (Or.inl rfl)
      · exact Or.inr (Or.inr rfl)
    · rintro (rfl | rfl | rfl)
      · exact ⟨0, by omega, rfl⟩
      · exact ⟨1, by omega, rfl⟩
      · exact ⟨2, by omega, rfl⟩
  unfold cWhyF mWhyF
  rw [rc_th h, e1, e2, rc_kin h, rc_bn h, h.2.2.1.2.2.2.2.1]
  by_cases q : isInF p 0 7 = true ∧ mTh m x = true ∧ ¬ mWhyS m p x = 0
  · have q2 := key.mp q.2.2
    rw [if_pos q, e3 q2]
    by_cases hww : isInF w 0 2 = true
    · have hc : isInF p 0 7 = true ∧ mTh m x = true ∧ isInF w 0 2 = true ∧ ¬ mWhyB m p x = -1 := ⟨q.1, q.2.1, hww, q2⟩
      rw [if_pos hc]
      rcases hw.mp hww with rfl | rfl | rfl <;> simp
    · have hc : ¬ (isInF p 0 7 = true ∧ mTh m x = true ∧ isInF w 0 2 = true ∧ ¬ mWhyB m p x = -1) := fun z => hww z.2.2.1
      rw [if_neg hc]
      have w0 : ¬ w = 0 := fun z => hww (hw.mpr (Or.inl z))
      have w1 : ¬ w = 1 := fun z => hww (hw.mpr (Or.inr (Or.inl z)))
      have w2 : ¬ w = 2 := fun z => hww (hw.mpr (Or.inr (Or.inr z)))
      simp [w0, w1, w2]
  · rw [if_neg q, if_neg (fun z => q ⟨z.1, z.2.1, key.mpr z.2.2.2⟩)]
end MRC
