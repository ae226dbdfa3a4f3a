/-! THE MOVES: both stores stay side by side, and sound -/
section MMV
variable {σ m : mS}
/-- a change of the scratch of the class, or of the model, is none -/
theorem rc_cEq {σ' : mS} (h : RC σ m) (he : cEq σ σ') : RC σ' m := by
  obtain ⟨h1, h2, h3, h4, h5⟩ := h
  refine ⟨by rw [he.1]; exact h1, by rw [he.2 1 (by decide)]; exact h2, ?_, ?_, ?_⟩
  · rw [he.2 2 (by decide), he.2 4 (by decide), he.2 5 (by decide), he.2 6 (by decide), he.2 7 (by decide), he.2 8 (by decide)]
    exact h3
  · intro p x hp hx
    rw [he.2 (12 + p) (by omega), he.2 (20 + p) (by omega)]
    exact h4 p x hp hx
  · rw [he.2 3 (by decide)]
    exact h5
theorem rc_mEq {m' : mS} (h : RC σ m) (he : mEq m m') : RC σ m' := by
  obtain ⟨⟨a1, a2, a3, a4⟩, ⟨b1, b2, b3, b4⟩, ⟨c1, c2, c3, c4, c5, c6⟩, h4, h5⟩ := h
  have f := fun j h1 h2 => he.1 j h1 h2
  refine ⟨⟨?_, ?_, ?_, ?_⟩, ⟨?_, ?_, ?_, ?_⟩, ⟨?_, ?_, ?_, ?_, ?_, ?_⟩, ?_, ?_⟩
  · rw [f 1 (by decide) (by decide)]; exact a1
  · rw [f 0 (by decide) (by decide)]; exact a2
  · rw [f 7 (by decide) (by decide)]; exact a3
  · rw [f 2 (by decide) (by decide)]; exact a4
  · rw [f 3 (by decide) (by decide)]; exact b1
  · rw [f 4 (by decide) (by decide)]; exact b2
  · rw [f 5 (by decide) (by decide)]; exact b3
  · rw [f 6 (by decide) (by decide)]; exact b4
  · rw [he.2 2 (by decide)]; exact c1
  · rw [he.2 3 (by decide)]; exact c2
  · rw [he.2 4 (by decide)]; exact c3
  · rw [he.2 5 (by decide)]; exact c4
  · rw [he.2 6 (by decide)]; exact c5
  · rw [he.2 7 (by decide)]; exact c6
  · intro p x hp hx
    rw [he.2 8 (by decide), he.2 9 (by decide)]
    exact h4 p x hp hx
  · rw [he.2 1 (by decide), mEq_tn he]
    exact h5
theorem inv_mEq {m' : mS} (h : Inv m) (he : mEq m m') : Inv m' := by
  obtain ⟨h1, h2, h3, h4, h5, h6, h7⟩ := h
  have f := fun j h1 h2 => he.1 j h1 h2
  refine ⟨mEq_ok he h1, ?_, ?_, ?_, ?_, ?_, ?_⟩
  · rw [f 5 (by decide) (by decide)]; exact h2
  · rw [f 1 (by decide) (by decide)]; exact h3
  · rw [mEq_tn he, f 7 (by decide) (by decide)]; exact h4
  · rw [he.2 9 (by decide)]; exact h5
  · rw [mEq_tn he, mEq_bn he, he.2 6 (by decide)]; exact h6
  · rw [mEq_tn he, he.2 8 (by decide), he.2 9 (by decide)]; exact h7
/-- stock -/
theorem mv_stock (h : RC σ m) (hi : Inv m) (x b : Int32) : (cStockF σ x b).1 = (mStockF m x b).1 ∧ RC (cStockF σ x b).2 (mStockF m x b).2 ∧ Inv (mStockF m x b).2 := by
  unfold cStockF mStockF
  rw [h.1.2.1, h.1.2.2.1]
  by_cases q : isInF x 0 (m.1 0 - 1) = true ∧ ¬ b32 (hB (m.1 7) x) = b
  · rw [if_pos q, if_pos q]
    obtain ⟨⟨a1, a2, a3, a4⟩, hb, hc, hd, he⟩ := h
    refine ⟨rfl, ⟨⟨a1, a2, ?_, a4⟩, hb, hc, hd, he⟩, ?_⟩
    · simp [upd]
    · obtain ⟨h1, h2, h3, ⟨s, hs, hse⟩, h5, h6, h7⟩ := hi
      refine ⟨h1, h2, h3, ?_, h5, h6, h7⟩
      obtain ⟨j, hj, rfl, -, -⟩ := mThing_ix h1 q.1
      show ∃ s, s < 2 ^ mTn m ∧ upd m.1 7 (m.1 7 ^^^ (1 : Int32) <<< (nI j &&& 31)) 7 = nI s
      rw [mx_u, if_pos rfl]
      refine small_of (fun k hk1 hk2 => ?_)
      have hn := h1.1.2
      rw [b_xor, hse, bt_small hs hk1 hk2, bt_shl1 (by omega) hk2]
      have : ¬ j = k := by omega
      simp [this]
  · rw [if_neg q, if_neg q]
    exact ⟨rfl, h, hi⟩
/-- apart -/
theorem mv_apart (h : RC σ m) (hi : Inv m) (a b i : Int32) : (cApartF σ a b i).1 = (mApartF m a b i).1 ∧ RC (cApartF σ a b i).2 (mApartF m a b i).2 ∧ Inv (mApartF m a b i).2 := by
  unfold cApartF mApartF
  rw [h.1.2.1, h.2.2.1.2.1]
  by_cases q : isInF a 0 (m.1 0 - 1) = true ∧ isInF b 0 (m.1 0 - 1) = true ∧ ¬ a = b ∧ ¬ b32 (hB (m.2 3 a.toNatClampNeg) b) = i
  · rw [if_pos q, if_pos q]
    obtain ⟨ha, hb, ⟨c1, c2, c3, c4, c5, c6⟩, hd, he⟩ := h
    refine ⟨rfl, ⟨ha, ?_, ⟨?_, ?_, ?_, ?_, ?_, ?_⟩, ?_, ?_⟩, ?_⟩
    · simpa [up2] using hb
    · simpa [up2] using c1
    · simp [up2, c2]
    · simpa [up2] using c3
    · simpa [up2] using c4
    · simpa [up2] using c5
    · simpa [up2] using c6
    · intro p x hp hx
      have n1 : ¬ 12 + p = 4 := by omega
      have n2 : ¬ 20 + p = 4 := by omega
      simpa [up2, n1, n2] using hd p x hp hx
    · exact he
    · obtain ⟨h1, h2, h3, h4, h5, h6, h7⟩ := hi
      exact ⟨h1, h2, h3, h4, h5, h6, h7⟩
  · rw [if_neg q, if_neg q]
    exact ⟨rfl, h, hi⟩
theorem rc_set (h : RC σ m) {k : Nat} (hk : k < 4) (v : Int32) : RC (σ.1, up2 σ.2 1 k v) (upd m.1 (3 + k) v, m.2) := by
  obtain ⟨⟨a1, a2, a3, a4⟩, ⟨b1, b2, b3, b4⟩, ⟨c1, c2, c3, c4, c5, c6⟩, hd, he⟩ := h
  have f : ∀ j, ¬ j = 3 + k → upd m.1 (3 + k) v j = m.1 j := fun j hj => by rw [mx_u, if_neg hj]
  have g : ∀ i, i < 4 → up2 σ.2 1 k v 1 i = (if i = k then v else σ.2 1 i) := fun i _ => by simp [up2, upd]
  have g2 : ∀ i, i < 4 → upd m.1 (3 + k) v (3 + i) = (if i = k then v else m.1 (3 + i)) := fun i _ => by
    rw [mx_u]
    by_cases e : i = k
    · rw [if_pos e, if_pos (by omega)]
    · rw [if_neg e, if_neg (by omega)]
  refine ⟨⟨?_, ?_, ?_, ?_⟩, ⟨?_, ?_, ?_, ?_⟩, ⟨c1, c2, c3, c4, c5, c6⟩, ?_, ?_⟩
  · exact a1.trans (f 1 (by omega)).symm
  · exact a2.trans (f 0 (by omega)).symm
  · exact a3.trans (f 7 (by omega)).symm
  · exact a4.trans (f 2 (by omega)).symm
  · refine (g 0 (by omega)).trans (Eq.trans ?_ (g2 0 (by omega)).symm); rw [b1]
  · refine (g 1 (by omega)).trans (Eq.trans ?_ (g2 1 (by omega)).symm); rw [b2]
  · refine (g 2 (by omega)).trans (Eq.trans ?_ (g2 2 (by omega)).symm); rw [b3]
  · refine (g 3 (by omega)).trans (Eq.trans ?_ (g2 3 (by omega)).symm); rw [b4]
  · intro p x hp hx
    have n1 : ¬ 12 + p = 1 := by omega
    have n2 : ¬ 20 + p = 1 := by omega
    simpa [up2, n1, n2] using hd p x hp hx
  · intro s x hs hx
    have : mTn (upd m.1 (3 + k) v, m.2) = mTn m := congrArg Int32.toNatClampNeg (f 0 (by omega))
    rw [this]
    exact he s x hs hx
/-- set -/
theorem mv_set (h : RC σ m) (hi : Inv m) (w v : Int32) : (cSetF σ w v).1 = (mSetF m w v).1 ∧ RC (cSetF σ w v).2 (mSetF m w v).2 ∧ Inv (mSetF m w v).2 := by
  unfold cSetF mSetF
  by_cases hw : isInF w 0 3 = true
  · obtain ⟨j, hj, rfl, -, e1⟩ := isS_ix hw
    have el : gsT j = (if nI j = 0 then 4 else if nI j = 1 then 5 else 9) := by
      rcases (show j = 0 ∨ j = 1 ∨ j = 2 ∨ j = 3 by omega) with rfl | rfl | rfl | rfl <;> decide +kernel
    rw [e1, el]
    by_cases q : isInF v 1 (if nI j = 0 then 4 else if nI j = 1 then 5 else 9) = true
    · rw [if_pos ⟨hw, q⟩, if_pos ⟨hw, q⟩]
      have hv : ∃ s, 1 ≤ s ∧ s ≤ 9 ∧ v = nI s := by
        unfold isInF at q
        rw [Bool.and_eq_true, decide_eq_true_eq, decide_eq_true_eq] at q
        have q1 := q.1
        rw [Int32.le_iff_toInt_le, show (1 : Int32).toInt = 1 from rfl] at q1
        have q2 : v ≤ 9 := by
          refine Int32.le_trans q.2 ?_
          by_cases z : nI j = 0
          · rw [if_pos z]; decide
          · rw [if_neg z]
            by_cases z1 : nI j = 1
            · rw [if_pos z1]; decide
            · rw [if_neg z1]; exact Int32.le_refl _
        obtain ⟨s, hs, rfl⟩ := nI_of (x := v) (by rw [Int32.lt_iff_toInt_lt, Int32.toInt_zero]; omega)
        rw [nI_toInt hs] at q1
        have q3 := (nI_leI hs (show 9 < 2 ^ 31 by decide)).mp q2
        exact ⟨s, by omega, q3, rfl⟩
      have ek : (if nI j = 0 then 3 else if nI j = 1 then 4 else if nI j = 2 then 5 else 6) = 3 + j := by
        rcases (show j = 0 ∨ j = 1 ∨ j = 2 ∨ j = 3 by omega) with rfl | rfl | rfl | rfl <;> decide +kernel
      rw [ek]
      refine ⟨rfl, rc_set h hj v, ?_⟩
      obtain ⟨h1, h2, h3, h4, h5, h6, h7⟩ := hi
      have f : ∀ i, ¬ i = 3 + j → upd m.1 (3 + j) v i = m.1 i := fun i hi => by rw [mx_u, if_neg hi]
      have et : mTn (upd m.1 (3 + j) v, m.2) = mTn m := congrArg Int32.toNatClampNeg (f 0 (by omega))
      have eb : mBn (upd m.1 (3 + j) v, m.2) = mBn m := congrArg Int32.toNatClampNeg (f 2 (by omega))
      have hs5 : ∃ s, 1 ≤ s ∧ s ≤ 9 ∧ upd m.1 (3 + j) v 5 = nI s := by
        by_cases e : j = 2
        · subst e
          obtain ⟨s, hs1, hs2, hs3⟩ := hv
          exact ⟨s, hs1, hs2, by rw [mx_u, if_pos rfl]; exact hs3⟩
        · rw [f 5 (by omega)]
          exact h2
      refine ⟨⟨?_, ?_, ?_, ?_⟩, hs5, ?_, ?_, h5, ?_, ?_⟩
      · rw [et]; exact ⟨(f 0 (by omega)).trans h1.1.1, h1.1.2⟩
      · rw [eb]; exact ⟨(f 2 (by omega)).trans h1.2.1.1, h1.2.1.2⟩
      · rw [eb]; exact h1.2.2.1
      · obtain ⟨s, hs1, hs2, hs3⟩ := hs5
        show ¬ upd m.1 (3 + j) v 5 = 0
        rw [hs3]
        exact nI_ne0 (by omega) (by omega)
      · obtain ⟨d, hd, hde⟩ := h3
        exact ⟨d, hd, (f 1 (by omega)).trans hde⟩
      · rw [et]
        obtain ⟨s, hs, hse⟩ := h4
        exact ⟨s, hs, (f 7 (by omega)).trans hse⟩
      · rw [et, eb]; exact h6
      · rw [et]; exact h7
    · have q1 : ¬ (isInF (nI j) 0 3 = true ∧ isInF v 1 (if nI j = 0 then 4 else if nI j = 1 then 5 else 9) = true) := fun z => q z.2
      rw [if_neg q1, if_neg q1]
      exact ⟨rfl, h, hi⟩
  · rw [if_neg (fun z => hw z.1), if_neg (fun z => hw z.1)]
    exact ⟨rfl, h, hi⟩
end MMV
