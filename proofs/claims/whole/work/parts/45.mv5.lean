section MMV5
variable {σ m : mS}
theorem mv_forget (h : RC σ m) (hi : Inv m) (p : Int32) : (cForgetF σ p).1 = (mForgetF m p).1 ∧ RC (cForgetF σ p).2 (mForgetF m p).2 ∧ Inv (mForgetF m p).2 := by
  unfold cForgetF mForgetF
  by_cases q : isInF p 0 7 = true
  · rw [if_pos q, if_pos q]
    obtain ⟨p, hp1, rfl, -, e1⟩ := mPers_ix q
    have hcb := rc_bn h
    have hn := hi.1.1.2
    obtain ⟨r1, r2, r3⟩ := rc_rm (c := cOwn (nI p)) (c' := fun s i => decide (s.2 4 i = nI p)) (fun s s' i hh => by unfold cOwn; rw [hh.2.2.1.2.2.1]) h hi (mBn m) (Nat.le_refl _)
    obtain ⟨-, -, -, t4, -⟩ := rmF_ok hi.1 (fun s i => decide (s.2 4 i = nI p)) (mBn m) (Nat.le_refl _)
    have et := t4 0 (by decide)
    rw [e1, hcb, r3]
    refine ⟨rfl, ?_⟩
    unfold cForgS mForgF cClr
    rw [hcb]
    generalize rmF cGoF (cOwn (nI p)) σ (mBn m) (mBn m) = σ2 at r1 ⊢
    generalize rmF mGoF (fun s i => decide (s.2 4 i = nI p)) m (mBn m) (mBn m) = m2 at r1 r2 et ⊢
    have ht2 : mTn m2 = mTn m := by unfold mTn; rw [et]
    have hr : RC (σ2.1, up2 σ2.2 8 p 0) (m2.1, up2 m2.2 7 p 0) := by
      obtain ⟨a, hs, ⟨c1, c2, c3, c4, c5, c6⟩, hd, he⟩ := r1
      refine ⟨a, hs, ⟨c1, c2, c3, c4, c5, ?_⟩, ?_, he⟩
      · simp [up2, c6]
      · intro q x hq hx
        have y1 : ¬ 12 + q = 8 := by omega
        have y2 : ¬ 20 + q = 8 := by omega
        simpa [up2, y1, y2] using hd q x hq hx
    have hv : Inv (m2.1, up2 m2.2 7 p 0) := r2
    have ht3 : cTn (σ2.1, up2 σ2.2 8 p 0) = mTn m := (rc_tn r1).trans ht2
    rw [ht3]
    have hall : ∀ x, x < mTn m → hB ((1 : Int32) <<< (σ.1 2 &&& 31) - 1) (nI x) = true := fun x hx => by
      rw [h.1.2.1, hi.1.1.1, all_m1 hn, hB_bt (by omega), bt_all (by omega)]
      exact decide_eq_true hx
    refine rc_clr hr hv hp1 hn (Nat.le_refl 12) (fun x hx => ?_)
    by_cases z : x < mTn m
    · exact Or.inl ⟨fun _ => ⟨hx, rfl⟩, fun _ => ⟨z, hall x z⟩⟩
    · obtain ⟨z1, z2⟩ := r2.2.2.2.2.2.2 p x hp1 (by rw [ht2]; omega) hx
      obtain ⟨d1, d2⟩ := r1.2.2.2.1 p x hp1 hx
      have y1 : ¬ 12 + p = 8 := by omega
      have y2 : ¬ 20 + p = 8 := by omega
      refine Or.inr ⟨?_, ?_⟩
      · simpa [up2, y1] using d1.trans z1
      · simpa [up2, y2] using d2.trans z2
  · rw [if_neg q, if_neg q]
    exact ⟨rfl, h, hi⟩
end MMV5
