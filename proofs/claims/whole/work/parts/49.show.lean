theorem up2_at (g : Nat → Nat → Int32) (a i : Nat) (v : Int32) (e j : Nat) : up2 g a i v e j = if e = a ∧ j = i then v else g e j := by
  unfold up2
  by_cases h1 : e = a
  · rw [if_pos h1, mx_u]
    by_cases h2 : j = i
    · rw [if_pos h2, if_pos ⟨h1, h2⟩]
    · rw [if_neg h2, if_neg (fun q => h2 q.2)]
  · rw [if_neg h1, if_neg (fun q => h1 q.1)]
theorem up2_hit (g : Nat → Nat → Int32) (a i : Nat) (v : Int32) : up2 g a i v a i = v := by rw [up2_at, if_pos ⟨rfl, rfl⟩]
theorem up2_miss {g : Nat → Nat → Int32} {a i : Nat} {v : Int32} {e j : Nat} (h : ¬ (e = a ∧ j = i)) : up2 g a i v e j = g e j := by rw [up2_at, if_neg h]
/-- the model's one showing of one thing -/
def mShG (g : Nat → Nat → Int32) (o : Nat) (lim day : Int32) : Nat → Nat → Int32 := if g 8 o + 1 < lim then up2 g 8 o (g 8 o + 1) else up2 (up2 (up2 g 8 o (g 8 o + 1)) 8 o 0) 9 o (day + 7)
theorem sh_step {g g' : Nat → Nat → Int32} {p n : Nat} (hp : p < 8) (hn : n < 12) {lim day : Int32} (hd : ∀ q x, q < 8 → x < 12 → g (12 + q) x = g' 8 (12 * q + x) ∧ g (20 + q) x = g' 9 (12 * q + x)) : ∀ q x, q < 8 → x < 12 → cShG g p n lim day (12 + q) x = mShG g' (12 * p + n) lim day 8 (12 * q + x) ∧ cShG g p n lim day (20 + q) x = mShG g' (12 * p + n) lim day 9 (12 * q + x) := by
  intro q x hq hx
  obtain ⟨d1, d2⟩ := hd q x hq hx
  have d3 := (hd p n hp hn).1
  unfold cShG mShG
  rw [← d3]
  by_cases c : g (12 + p) n + 1 < lim
  · rw [if_pos c, if_pos c]
    by_cases e : q = p ∧ x = n
    · obtain ⟨rfl, rfl⟩ := e
      rw [up2_hit, up2_hit, up2_miss (by omega), up2_miss (by omega)]
      exact ⟨rfl, d2⟩
    · rw [up2_miss (by omega), up2_miss (by omega), up2_miss (by omega), up2_miss (by omega)]
      exact ⟨d1, d2⟩
  · rw [if_neg c, if_neg c]
    by_cases e : q = p ∧ x = n
    · obtain ⟨rfl, rfl⟩ := e
      refine ⟨?_, ?_⟩
      · rw [up2_miss (by omega), up2_hit, up2_miss (by omega), up2_hit]
      · rw [up2_hit, up2_hit]
    · refine ⟨?_, ?_⟩
      · rw [up2_miss (by omega), up2_miss (by omega), up2_miss (by omega), up2_miss (by omega), up2_miss (by omega), up2_miss (by omega)]
        exact d1
      · rw [up2_miss (by omega), up2_miss (by omega), up2_miss (by omega), up2_miss (by omega), up2_miss (by omega), up2_miss (by omega)]
        exact d2
theorem mShG_o {g : Nat → Nat → Int32} {o : Nat} {lim day : Int32} {a : Nat} (h1 : a ≠ 8) (h2 : a ≠ 9) : mShG g o lim day a = g a := by
  funext j
  unfold mShG
  by_cases c : g 8 o + 1 < lim
  · rw [if_pos c, up2_miss (fun q => h1 q.1)]
  · rw [if_neg c, up2_miss (fun q => h2 q.1), up2_miss (fun q => h1 q.1), up2_miss (fun q => h1 q.1)]
theorem mShG_j {g : Nat → Nat → Int32} {o : Nat} {lim day : Int32} {a j : Nat} (h : j ≠ o) : mShG g o lim day a j = g a j := by
  unfold mShG
  by_cases c : g 8 o + 1 < lim
  · rw [if_pos c, up2_miss (fun q => h q.2)]
  · rw [if_neg c, up2_miss (fun q => h q.2), up2_miss (fun q => h q.2), up2_miss (fun q => h q.2)]
theorem mShG_9 {g : Nat → Nat → Int32} {o : Nat} {lim day : Int32} (j : Nat) : mShG g o lim day 9 j = g 9 j ∨ mShG g o lim day 9 j = day + 7 := by
  unfold mShG
  by_cases c : g 8 o + 1 < lim
  · rw [if_pos c, up2_miss (by omega)]
    exact Or.inl rfl
  · rw [if_neg c]
    by_cases e : j = o
    · subst e
      rw [up2_hit]
      exact Or.inr rfl
    · rw [up2_miss (fun q => e q.2), up2_miss (fun q => e q.2), up2_miss (fun q => e q.2)]
      exact Or.inl rfl
theorem swF_s (g : Nat → Nat → Int32) (o : Nat) (best lim day : Int32) (n : Nat) : swF g o best lim day (n + 1) = if hB best (nI n) = true then mShG (swF g o best lim day n) (o + n) lim day else swF g o best lim day n := rfl
theorem sw_all {g g' : Nat → Nat → Int32} {p : Nat} (hp : p < 8) {best lim day : Int32} (hd : ∀ q x, q < 8 → x < 12 → g (12 + q) x = g' 8 (12 * q + x) ∧ g (20 + q) x = g' 9 (12 * q + x)) : ∀ n, n ≤ 12 → (∀ q x, q < 8 → x < 12 → csF g p best lim day n (12 + q) x = swF g' (12 * p) best lim day n 8 (12 * q + x) ∧ csF g p best lim day n (20 + q) x = swF g' (12 * p) best lim day n 9 (12 * q + x)) ∧ (∀ a, a ≠ 8 → a ≠ 9 → swF g' (12 * p) best lim day n a = g' a) ∧ (∀ a j, (∀ y, y < n → j ≠ 12 * p + y) → swF g' (12 * p) best lim day n a j = g' a j) ∧ (∀ j, swF g' (12 * p) best lim day n 9 j = g' 9 j ∨ swF g' (12 * p) best lim day n 9 j = day + 7)
  | 0, _ => ⟨hd, fun _ _ _ => rfl, fun _ _ _ => rfl, fun _ => Or.inl rfl⟩
  | n + 1, hn => by
    obtain ⟨h1, h2, h3, h4⟩ := sw_all (best := best) (lim := lim) (day := day) hp hd n (by omega)
    rw [swF_s, csF]
    cases hb : hB best (nI n) with
    | false =>
      rw [cond_false, if_neg (by decide)]
      exact ⟨h1, h2, fun a j hj => h3 a j (fun y hy => hj y (by omega)), h4⟩
    | true =>
      rw [cond_true, if_pos rfl]
      refine ⟨sh_step hp (by omega) h1, fun a ha hb => ?_, fun a j hj => ?_, fun j => ?_⟩
      · rw [mShG_o ha hb, h2 a ha hb]
      · rw [mShG_j (hj n (by omega)), h3 a j (fun y hy => hj y (by omega))]
      · rcases mShG_9 (g := swF g' (12 * p) best lim day n) (o := 12 * p + n) (lim := lim) (day := day) j with q | q
        · rw [q]; exact h4 j
        · exact Or.inr q
section MSHOW
variable {σ m : mS}
theorem mv_show (h : RC σ m) (hi : Inv m) (p k : Int32) : (cShowF σ p k).1 = (mShowF m p k).1 ∧ RC (cShowF σ p k).2 (mShowF m p k).2 ∧ Inv (mShowF m p k).2 := by
  unfold cShowF mShowF
  by_cases q : isInF p 0 7 = true ∧ isInF k 1 5 = true
  · rw [if_pos q, if_pos q]
    obtain ⟨p, hp1, rfl, -, hp3⟩ := mPers_ix q.1
    obtain ⟨e1, -⟩ := rc_lst h hi hp1 k
    have hE : cEq σ (cBlp σ (nI p)) := wcG_eq _ _ _ _
    have hM : mEq m (mLsP m (nI p) k) := mLs_eq _ _ _ _
    have hr := rc_mEq (rc_cEq h hE) hM
    have hv := inv_mEq hi hM
    have ht := mEq_tn hM
    have hn := hi.1.1.2
    rw [e1, hp3]
    refine ⟨rfl, ?_⟩
    unfold cShowS mShowS
    rw [e1, rc_tn h, h.2.1.2.2.2, h.1.1, h.2.2.1.2.2.2.2.2]
    generalize (mLst m (nI p) k).1 = best
    obtain ⟨⟨a1, a2, a3, a4⟩, hs, ⟨c1, c2, c3, c4, c5, c6⟩, hd, he⟩ := hr
    obtain ⟨i1, i2, i3, i4, i5, i6, i7⟩ := hv
    have hday : (mLsP m (nI p) k).1 1 = m.1 1 := hM.1 1 (by decide) (by decide)
    have hsh : (mLsP m (nI p) k).2 7 = m.2 7 := hM.2 7 (by decide)
    have hf1 : (cBlp σ (nI p)).1 = σ.1 := hE.1
    rw [hf1] at a1 a2 a3 a4
    have hd2 : ∀ q x, q < 8 → x < 12 → up2 (cBlp σ (nI p)).2 8 p (m.2 7 p + 1) (12 + q) x = up2 (mLsP m (nI p) k).2 7 p (m.2 7 p + 1) 8 (12 * q + x) ∧ up2 (cBlp σ (nI p)).2 8 p (m.2 7 p + 1) (20 + q) x = up2 (mLsP m (nI p) k).2 7 p (m.2 7 p + 1) 9 (12 * q + x) := fun q x hq hx => by
      rw [up2_miss (by omega), up2_miss (by omega), up2_miss (by omega), up2_miss (by omega)]
      exact hd q x hq hx
    obtain ⟨s1, s2, s3, s4⟩ := sw_all (best := best) (lim := m.1 6) (day := m.1 1) hp1 hd2 (mTn m) hn
    have co : ∀ a, a < 12 → csF (up2 (cBlp σ (nI p)).2 8 p (m.2 7 p + 1)) p best (m.1 6) (m.1 1) (mTn m) a = up2 (cBlp σ (nI p)).2 8 p (m.2 7 p + 1) a := fun a ha => csF_1 _ _ _ _ _ hp1 ha _
    have ug : ∀ (g : Nat → Nat → Int32) (b i : Nat) (v : Int32) (a : Nat), a ≠ b → up2 g b i v a = g a := fun g b i v a hab => by unfold up2; rw [if_neg hab]
    generalize hG : csF (up2 (cBlp σ (nI p)).2 8 p (m.2 7 p + 1)) p best (m.1 6) (m.1 1) (mTn m) = G at s1 co ⊢
    generalize hG2 : swF (up2 (mLsP m (nI p) k).2 7 p (m.2 7 p + 1)) (12 * p) best (m.1 6) (m.1 1) (mTn m) = G' at s1 s2 s3 s4 ⊢
    have g9 : ∀ j, up2 (mLsP m (nI p) k).2 7 p (m.2 7 p + 1) 9 j = (mLsP m (nI p) k).2 9 j := fun j => up2_miss (by omega)
    have g8 : ∀ j, up2 (mLsP m (nI p) k).2 7 p (m.2 7 p + 1) 8 j = (mLsP m (nI p) k).2 8 j := fun j => up2_miss (by omega)
    have G'o : ∀ a, a ≠ 7 → a ≠ 8 → a ≠ 9 → G' a = (mLsP m (nI p) k).2 a := fun a h7 h8 h9 => by rw [s2 a h8 h9, ug _ _ _ _ _ h7]
    have Go : ∀ a, a < 12 → a ≠ 8 → G a = (cBlp σ (nI p)).2 a := fun a ha h8 => by rw [co a ha, ug _ _ _ _ _ h8]
    refine ⟨⟨⟨a1, a2, a3, a4⟩, ?_, ⟨?_, ?_, ?_, ?_, ?_, ?_⟩, s1, ?_⟩, ⟨?_, i2, i3, i4, ?_, ?_, ?_⟩⟩
    · dsimp only; rw [Go 1 (by decide) (by decide)]; exact hs
    · dsimp only; rw [Go 2 (by decide) (by decide), G'o 2 (by decide) (by decide) (by decide)]; exact c1
    · dsimp only; rw [Go 4 (by decide) (by decide), G'o 3 (by decide) (by decide) (by decide)]; exact c2
    · dsimp only; rw [Go 5 (by decide) (by decide), G'o 4 (by decide) (by decide) (by decide)]; exact c3
    · dsimp only; rw [Go 6 (by decide) (by decide), G'o 5 (by decide) (by decide) (by decide)]; exact c4
    · dsimp only; rw [Go 7 (by decide) (by decide), G'o 6 (by decide) (by decide) (by decide)]; exact c5
    · dsimp only
      rw [co 8 (by decide), s2 7 (by decide) (by decide)]
      unfold up2
      rw [if_pos rfl, if_pos rfl, c6]
    · intro s x hs2 hx
      have e3 : G 3 = (cBlp σ (nI p)).2 3 := Go 3 (by decide) (by decide)
      have e4 : G' 1 = (mLsP m (nI p) k).2 1 := G'o 1 (by decide) (by decide) (by decide)
      have := he s x hs2 hx
      simp only [e3, e4]
      exact this
    · refine ⟨i1.1, i1.2.1, ?_, i1.2.2.2⟩
      dsimp only
      rw [G'o 4 (by decide) (by decide) (by decide)]
      exact i1.2.2.1
    · intro q x hq hx
      dsimp only
      rcases s4 (12 * q + x) with y | y
      · rw [y, g9]; exact i5 q x hq hx
      · obtain ⟨d, hd3, hde⟩ := i3
        rw [hday] at hde
        rw [y, hde, show (7 : Int32) = nI 7 from rfl, nI_add]
        exact ⟨d + 7, by omega, rfl⟩
    · dsimp only
      rw [G'o 6 (by decide) (by decide) (by decide)]
      exact i6
    · intro q x hq hx1 hx2
      have hx3 : mTn m ≤ x := by
        have : mTn ((mLsP m (nI p) k).1, G') = mTn m := ht
        rw [this] at hx1
        exact hx1
      have hne : ∀ y, y < mTn m → 12 * q + x ≠ 12 * p + y := fun y hy => by omega
      dsimp only
      rw [s3 8 _ hne, s3 9 _ hne, g8, g9]
      exact i7 q x hq (by rw [ht]; exact hx3) hx2
  · rw [if_neg q, if_neg q]
    exact ⟨rfl, h, hi⟩
end MSHOW
