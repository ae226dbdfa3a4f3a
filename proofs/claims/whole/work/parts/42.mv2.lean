section MMV2
variable {σ m : mS}
/-- a basket goes -/
theorem rc_go (h : RC σ m) (i : Nat) : RC (cGoF σ i) (mGoF m i) := by
  have hb := rc_bn h
  obtain ⟨⟨a1, a2, a3, a4⟩, hs, ⟨c1, c2, c3, c4, c5, c6⟩, hd, he⟩ := h
  refine ⟨⟨?_, ?_, ?_, ?_⟩, ?_, ⟨?_, ?_, ?_, ?_, ?_, ?_⟩, ?_, ?_⟩
  · rw [cGoF_f i (by decide), mGoF_f i (by decide)]; exact a1
  · rw [cGoF_f i (by decide), mGoF_f i (by decide)]; exact a2
  · rw [cGoF_f i (by decide), mGoF_f i (by decide)]; exact a3
  · simp [cGoF, mGoF, upd, hb]
  · rw [cGoF_g i (by decide), mGoF_f i (by decide), mGoF_f i (by decide), mGoF_f i (by decide), mGoF_f i (by decide)]; exact hs
  · rw [cGoF_g i (by decide), mGoF_g i (by decide)]; exact c1
  · rw [cGoF_g i (by decide), mGoF_g i (by decide)]; exact c2
  · show shG σ.2 5 i _ 5 = shG m.2 4 i _ 4
    simp only [shG, true_or, if_true]
    rw [c3, hb]
  · show shG σ.2 5 i _ 6 = shG m.2 4 i _ 5
    have n1 : (6 = 5 ∨ 6 = 5 + 1 ∨ 6 = 5 + 2) := by decide
    have n2 : (5 = 4 ∨ 5 = 4 + 1 ∨ 5 = 4 + 2) := by decide
    unfold shG
    rw [if_pos n1, if_pos n2, c4, hb]
  · show shG σ.2 5 i _ 7 = shG m.2 4 i _ 6
    have n1 : (7 = 5 ∨ 7 = 5 + 1 ∨ 7 = 5 + 2) := by decide
    have n2 : (6 = 4 ∨ 6 = 4 + 1 ∨ 6 = 4 + 2) := by decide
    unfold shG
    rw [if_pos n1, if_pos n2, c5, hb]
  · rw [cGoF_g i (by decide), mGoF_g i (by decide)]; exact c6
  · intro p x hp hx
    rw [cGoF_g i (by omega), cGoF_g i (by omega), mGoF_g i (by decide), mGoF_g i (by decide)]
    exact hd p x hp hx
  · intro s x hs hx
    have : mTn (mGoF m i) = mTn m := by unfold mTn; rw [mGoF_f i (by decide)]
    rw [cGoF_g i (by decide), mGoF_g i (by decide), this]
    exact he s x hs hx
theorem inv_go (h : Inv m) {i : Nat} (hi : i < mBn m) : Inv (mGoF m i) := by
  obtain ⟨h1, h2, h3, h4, h5, h6, h7⟩ := h
  have ht : mTn (mGoF m i) = mTn m := by unfold mTn; rw [mGoF_f i (by decide)]
  have hb := mGoF_bn (σ := m) h1.2.1.2 i
  refine ⟨mGoF_ok h1 hi, ?_, ?_, ?_, ?_, ?_, ?_⟩
  · rw [mGoF_f i (by decide)]; exact h2
  · rw [mGoF_f i (by decide)]; exact h3
  · rw [ht, mGoF_f i (by decide)]; exact h4
  · rw [mGoF_g i (by decide)]; exact h5
  · intro k hk
    rw [hb] at hk
    rw [ht]
    have n2 : (6 = 4 ∨ 6 = 4 + 1 ∨ 6 = 4 + 2) := by decide
    show ∃ s, s < 2 ^ mTn m ∧ shG m.2 4 i _ 6 k = nI s
    unfold shG
    rw [if_pos n2]
    by_cases hki : k < i
    · rw [shF_lo _ _ _ _ hki]; exact h6 k (by omega)
    · rw [shF_in _ _ _ _ (by omega) (by omega)]; exact h6 (k + 1) (by omega)
  · rw [ht, mGoF_g i (by decide), mGoF_g i (by decide)]; exact h7
theorem mv_drop (h : RC σ m) (hi : Inv m) (i : Int32) : (cDropF σ i).1 = (mDropF m i).1 ∧ RC (cDropF σ i).2 (mDropF m i).2 ∧ Inv (mDropF m i).2 := by
  unfold cDropF mDropF
  rw [h.1.2.2.2]
  by_cases q : isInF i 0 (m.1 2 - 1) = true
  · obtain ⟨j, hj, rfl, -, e⟩ := mBask_ix hi.1 q
    rw [if_pos q, if_pos q, e]
    exact ⟨rfl, rc_go h j, inv_go hi hj⟩
  · rw [if_neg q, if_neg q]
    exact ⟨rfl, h, hi⟩
/-- baskets go one after the other, where two tests agree -/
theorem rc_rm {c c' : mS → Nat → Bool} (hc : ∀ s s' i, RC s s' → c s i = c' s' i) (h : RC σ m) (hi : Inv m) : ∀ k, k ≤ mBn m → RC (rmF cGoF c σ (mBn m) k) (rmF mGoF c' m (mBn m) k) ∧ Inv (rmF mGoF c' m (mBn m) k) ∧ rmC cGoF c σ (mBn m) k = rmC mGoF c' m (mBn m) k
  | 0, _ => ⟨h, hi, rfl⟩
  | k + 1, hk => by
    obtain ⟨h1, h2, h3⟩ := rc_rm hc h hi k (by omega)
    obtain ⟨r1, r2, r3, -, -⟩ := rmF_ok hi.1 c' k (by omega)
    unfold rmF rmC
    rw [hc _ _ (mBn m - 1 - k) h1, h3]
    cases c' (rmF mGoF c' m (mBn m) k) (mBn m - 1 - k) with
    | false => exact ⟨h1, h2, rfl⟩
    | true => exact ⟨rc_go h1 _, inv_go h2 (by omega), rfl⟩
theorem mv_day (h : RC σ m) (hi : Inv m) : (cDayF σ).1 = (mDayF m).1 ∧ RC (cDayF σ).2 (mDayF m).2 ∧ Inv (mDayF m).2 := by
  have hb := rc_bn h
  unfold cDayF mDayF
  rw [h.1.1, hb]
  by_cases q : m.1 1 = 9999
  · rw [if_pos q, if_pos q]
    exact ⟨rfl, h, hi⟩
  · rw [if_neg q, if_neg q]
    have hr : RC (cDayS σ) (mDayS m) := by
      obtain ⟨⟨a1, a2, a3, a4⟩, hs, hc, hd, he⟩ := h
      refine ⟨⟨?_, a2, a3, a4⟩, hs, hc, hd, he⟩
      simp [cDayS, mDayS, upd, a1]
    have hv : Inv (mDayS m) := by
      obtain ⟨h1, h2, ⟨d, hd, hde⟩, h4, h5, h6, h7⟩ := hi
      refine ⟨h1, h2, ⟨d + 1, ?_, ?_⟩, h4, h5, h6, h7⟩
      · have : ¬ d = 9999 := fun z => q (by rw [hde, z]; rfl)
        omega
      · show upd m.1 1 (m.1 1 + 1) 1 = _
        rw [mx_u, if_pos rfl, hde, nI_1]
    obtain ⟨r1, r2, r3⟩ := rc_rm (c := cOld) (c' := fun s i => decide (28 ≤ s.1 1 - s.2 5 i)) (fun s s' i hh => by unfold cOld; rw [hh.1.1, hh.2.2.1.2.2.2.1]) hr hv (mBn m) (Nat.le_refl _)
    exact ⟨rfl, r1, r2⟩
/-- rows of shown and tired, cleared: what stands there -/
theorem clF_at {g : Nat → Nat → Int32} {a b o : Nat} (hab : a ≠ b) {c : Nat → Bool} : ∀ {n : Nat} (e j : Nat), clF g a b o c n e j = if (e = a ∨ e = b) ∧ o ≤ j ∧ j < o + n ∧ c (j - o) = true then 0 else g e j
  | 0, e, j => by
    rw [if_neg (fun q => by omega)]
    rfl
  | n + 1, e, j => by
    have ih := clF_at (g := g) (a := a) (b := b) (o := o) hab (c := c) (n := n)
    unfold clF
    cases hcn : c n with
    | false =>
      rw [cond_false, ih]
      by_cases q : (e = a ∨ e = b) ∧ o ≤ j ∧ j < o + n ∧ c (j - o) = true
      · rw [if_pos q, if_pos ⟨q.1, q.2.1, by omega, q.2.2.2⟩]
      · rw [if_neg q, if_neg (fun z => q ⟨z.1, z.2.1, ?_, z.2.2.2⟩)]
        rcases Nat.lt_or_ge j (o + n) with y | y
        · exact y
        · have : j - o = n := by omega
          rw [this, hcn] at z
          exact absurd z.2.2.2 (by decide)
    | true =>
      rw [cond_true]
      unfold up2
      by_cases e1 : e = b
      · subst e1
        rw [if_pos rfl, if_neg (Ne.symm hab), mx_u, ih]
        by_cases y : j = o + n
        · subst y
          rw [if_pos rfl, if_pos ⟨Or.inr rfl, by omega, by omega, by rw [show o + n - o = n by omega]; exact hcn⟩]
        · rw [if_neg y]
          by_cases q : (e = a ∨ e = e) ∧ o ≤ j ∧ j < o + n ∧ c (j - o) = true
          · rw [if_pos q, if_pos ⟨q.1, q.2.1, by omega, q.2.2.2⟩]
          · rw [if_neg q, if_neg (fun z => q ⟨z.1, z.2.1, by omega, z.2.2.2⟩)]
      · rw [if_neg e1]
        by_cases e2 : e = a
        · subst e2
          rw [if_pos rfl, mx_u, ih]
          by_cases y : j = o + n
          · subst y
            rw [if_pos rfl, if_pos ⟨Or.inl rfl, by omega, by omega, by rw [show o + n - o = n by omega]; exact hcn⟩]
          · rw [if_neg y]
            by_cases q : (e = e ∨ e = b) ∧ o ≤ j ∧ j < o + n ∧ c (j - o) = true
            · rw [if_pos q, if_pos ⟨q.1, q.2.1, by omega, q.2.2.2⟩]
            · rw [if_neg q, if_neg (fun z => q ⟨z.1, z.2.1, by omega, z.2.2.2⟩)]
        · rw [if_neg e2, ih, if_neg (fun q => q.1.elim e2 e1), if_neg (fun q => q.1.elim e2 e1)]
end MMV2
