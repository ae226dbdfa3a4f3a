section MMV3
variable {σ m : mS}
theorem mv_thing (h : RC σ m) (hi : Inv m) (s : Int32) : (cThingF σ s).1 = (mThingF m s).1 ∧ RC (cThingF σ s).2 (mThingF m s).2 ∧ Inv (mThingF m s).2 := by
  unfold cThingF mThingF
  rw [h.1.2.1]
  by_cases q : isInF s 0 3 = true ∧ ¬ m.1 0 = 12
  · rw [if_pos q, if_pos q]
    obtain ⟨j, hj, rfl, -, e1⟩ := isS_ix q.1
    obtain ⟨⟨⟨ht, hn⟩, hb, ho, hz⟩, h2, h3, ⟨k, hk, hke⟩, h5, h6, h7⟩ := hi
    have hn2 : mTn m < 12 := by
      have : ¬ mTn m = 12 := fun z => q.2 (by rw [ht, z]; rfl)
      omega
    have et : (m.1 0).toNatClampNeg = mTn m := rfl
    rw [e1, et]
    obtain ⟨⟨a1, a2, a3, a4⟩, hs, ⟨c1, c2, c3, c4, c5, c6⟩, hd, he⟩ := h
    generalize hM : ((upd (upd m.1 7 (m.1 7 ||| (1 : Int32) <<< (m.1 0 &&& 31))) 0 (m.1 0 + 1), up2 (up2 m.2 1 (mTn m) (nI j)) 2 (mTn m) (m.1 1)) : mS) = m'
    have f0 : m'.1 0 = nI (mTn m + 1) := by rw [← hM]; simp [upd]; rw [ht, nI_1]
    have fo : ∀ i, i ≠ 0 → i ≠ 7 → m'.1 i = m.1 i := fun i h1 h2 => by rw [← hM]; simp [upd, h1, h2]
    have f7 : m'.1 7 = m.1 7 ||| (1 : Int32) <<< (nI (mTn m) &&& 31) := by rw [← hM]; simp [upd]; rw [← ht]
    have g1 : m'.2 1 = upd (m.2 1) (mTn m) (nI j) := by rw [← hM]; simp [up2]
    have g2 : m'.2 2 = upd (m.2 2) (mTn m) (m.1 1) := by rw [← hM]; simp [up2]
    have go : ∀ a, a ≠ 1 → a ≠ 2 → m'.2 a = m.2 a := fun a h1 h2 => by rw [← hM]; simp [up2, h1, h2]
    have mt : mTn m' = mTn m + 1 := by unfold mTn; rw [f0, nI_clamp (by unfold mTn at hn2; omega)]; rfl
    have mb : mBn m' = mBn m := by unfold mBn; rw [fo 2 (by decide) (by decide)]
    clear hM
    refine ⟨rfl, ⟨⟨?_, ?_, ?_, ?_⟩, ?_, ⟨?_, ?_, ?_, ?_, ?_, ?_⟩, ?_, ?_⟩, ?_⟩
    · rw [fo 1 (by decide) (by decide)]; simpa [upd] using a1
    · rw [f0]; simp [upd]; rw [ht, nI_1]
    · rw [f7, ← a3]; simp [upd]; rw [← ht]
    · rw [fo 2 (by decide) (by decide)]; simpa [upd] using a4
    · rw [fo 3 (by decide) (by decide), fo 4 (by decide) (by decide), fo 5 (by decide) (by decide), fo 6 (by decide) (by decide)]
      simpa [up2] using hs
    · rw [g2]; simp [up2, c1, a1]
    · rw [go 3 (by decide) (by decide)]; simpa [up2] using c2
    · rw [go 4 (by decide) (by decide)]; simpa [up2] using c3
    · rw [go 5 (by decide) (by decide)]; simpa [up2] using c4
    · rw [go 6 (by decide) (by decide)]; simpa [up2] using c5
    · rw [go 7 (by decide) (by decide)]; simpa [up2] using c6
    · intro p x hp hx
      rw [go 8 (by decide) (by decide), go 9 (by decide) (by decide)]
      have n1 : ¬ 12 + p = 2 := by omega
      have n2 : ¬ 20 + p = 2 := by omega
      have n3 : ¬ 12 + p = 3 := by omega
      have n4 : ¬ 20 + p = 3 := by omega
      simpa [up2, n1, n2, n3, n4] using hd p x hp hx
    · intro s2 x hs2 hx
      rw [mt, g1, mx_u]
      have hold := he s2 x hs2 hx
      have hnew : bt (upd (σ.2 3) j (σ.2 3 j ||| (1 : Int32) <<< (nI (mTn m) &&& 31)) s2) x = (bt (σ.2 3 s2) x || (decide (s2 = j) && decide (mTn m = x))) := by
        rw [mx_u]
        by_cases e : s2 = j
        · subst e
          rw [if_pos rfl, b_or, bt_shl1 (by omega) (by omega)]
          simp
        · rw [if_neg e]
          simp [e]
      have hL : bt ((up2 (up2 σ.2 2 (mTn m) (σ.1 0)) 3 j (σ.2 3 j ||| (1 : Int32) <<< (m.1 0 &&& 31))) 3 s2) x = (bt (σ.2 3 s2) x || (decide (s2 = j) && decide (mTn m = x))) := by
        rw [← hnew]
        simp only [up2, if_true]
        rw [show m.1 0 = nI (mTn m) from ht]
        simp
      refine Eq.trans hL ?_
      rw [hold]
      by_cases ex : x = mTn m
      · subst ex
        rw [if_pos rfl]
        have : decide (nI j = nI s2) = decide (s2 = j) := by
          rw [Bool.eq_iff_iff, decide_eq_true_eq, decide_eq_true_eq, nI_eq (by omega) (by omega)]
          omega
        rw [this]
        simp
      · rw [if_neg ex]
        have e2 : decide (mTn m = x) = false := decide_eq_false (Ne.symm ex)
        have e3 : decide (x < mTn m + 1) = decide (x < mTn m) := by
          rw [Bool.eq_iff_iff, decide_eq_true_eq, decide_eq_true_eq]
          omega
        rw [e2, e3]
        simp
    · refine ⟨⟨⟨by rw [mt]; exact f0, by rw [mt]; omega⟩, by rw [mb, fo 2 (by decide) (by decide)]; exact hb, by rw [mb, go 4 (by decide) (by decide)]; exact ho, by rw [fo 5 (by decide) (by decide)]; exact hz⟩, by rw [fo 5 (by decide) (by decide)]; exact h2, by rw [fo 1 (by decide) (by decide)]; exact h3, ?_, by rw [go 9 (by decide) (by decide)]; exact h5, ?_, ?_⟩
      · rw [mt, f7, hke]
        refine small_of (fun i hi1 hi2 => ?_)
        rw [b_or, bt_small hk (by omega) hi2, bt_shl1 (by omega) hi2]
        have : ¬ mTn m = i := by omega
        simp [this]
      · rw [mb, mt, go 6 (by decide) (by decide)]
        intro i hib
        obtain ⟨z, hz1, hz2⟩ := h6 i hib
        exact ⟨z, Nat.lt_of_lt_of_le hz1 (Nat.pow_le_pow_right (by decide) (by omega)), hz2⟩
      · rw [mt, go 8 (by decide) (by decide), go 9 (by decide) (by decide)]
        intro p x hp hx1 hx2
        exact h7 p x hp (by omega) hx2
  · rw [if_neg q, if_neg q]
    exact ⟨rfl, h, hi⟩
end MMV3
