section MMV4
variable {σ m : mS}
theorem cl_in {g : Nat → Nat → Int32} {a b o : Nat} (hab : a ≠ b) {c : Nat → Bool} {n e j x : Nat} (hj : j = o + x) (he : e = a ∨ e = b) : clF g a b o c n e j = if x < n ∧ c x = true then 0 else g e j := by
  rw [clF_at hab]
  have e1 : j - o = x := by omega
  rw [e1]
  by_cases z : x < n ∧ c x = true
  · rw [if_pos z, if_pos ⟨he, by omega, by omega, z.2⟩]
  · rw [if_neg z, if_neg (fun y => z ⟨by omega, y.2.2.2⟩)]
theorem cl_out {g : Nat → Nat → Int32} {a b o : Nat} (hab : a ≠ b) {c : Nat → Bool} {n e j : Nat} (h : ¬ (e = a ∨ e = b) ∨ j < o ∨ o + n ≤ j) : clF g a b o c n e j = g e j := by
  rw [clF_at hab, if_neg (fun y => by rcases h with h | h | h; exact h y.1; omega; omega)]
/-- rows cleared on both sides alike -/
theorem row_clr {g g' : Nat → Nat → Int32} {p : Nat} (hp : p < 8) {c c' : Nat → Bool} {n n' : Nat} (hn : n ≤ 12) (hn' : n' ≤ 12) (hd : ∀ p x, p < 8 → x < 12 → g (12 + p) x = g' 8 (12 * p + x) ∧ g (20 + p) x = g' 9 (12 * p + x)) (hc : ∀ x, x < 12 → ((x < n ∧ c x = true) ↔ (x < n' ∧ c' x = true)) ∨ (g (12 + p) x = 0 ∧ g (20 + p) x = 0)) : ∀ q x, q < 8 → x < 12 → clF g (12 + p) (20 + p) 0 c n (12 + q) x = clF g' 8 9 (12 * p) c' n' 8 (12 * q + x) ∧ clF g (12 + p) (20 + p) 0 c n (20 + q) x = clF g' 8 9 (12 * p) c' n' 9 (12 * q + x) := by
  intro q x hq hx
  have n1 : 12 + p ≠ 20 + p := by omega
  have n2 : (8 : Nat) ≠ 9 := by decide
  obtain ⟨d1, d2⟩ := hd q x hq hx
  by_cases e : q = p
  · subst e
    rw [cl_in n1 (x := x) (by omega) (Or.inl rfl), cl_in n1 (x := x) (by omega) (Or.inr rfl), cl_in n2 (x := x) rfl (Or.inl rfl), cl_in n2 (x := x) rfl (Or.inr rfl), ← d1, ← d2]
    rcases hc x hx with h1 | h1
    · by_cases z : x < n ∧ c x = true
      · have z2 := h1.mp z
        rw [if_pos z, if_pos z, if_pos z2, if_pos z2]
        exact ⟨rfl, rfl⟩
      · have z2 : ¬ (x < n' ∧ c' x = true) := fun y => z (h1.mpr y)
        rw [if_neg z, if_neg z, if_neg z2, if_neg z2]
        exact ⟨rfl, rfl⟩
    · rw [h1.1, h1.2]
      simp
  · rw [cl_out n1 (Or.inl (by omega)), cl_out n1 (Or.inl (by omega)), cl_out n2 (Or.inr (by omega)), cl_out n2 (Or.inr (by omega))]
    exact ⟨d1, d2⟩
theorem clF_ne {g : Nat → Nat → Int32} {a b o : Nat} (hab : a ≠ b) {c : Nat → Bool} {n e : Nat} (h1 : e ≠ a) (h2 : e ≠ b) : clF g a b o c n e = g e := by
  funext j
  rw [clF_at hab, if_neg (fun q => q.1.elim h1 h2)]
theorem clF_or {g : Nat → Nat → Int32} {a b o : Nat} (hab : a ≠ b) {c : Nat → Bool} {n : Nat} (e j : Nat) : clF g a b o c n e j = 0 ∨ clF g a b o c n e j = g e j := by
  rw [clF_at hab]
  by_cases q : (e = a ∨ e = b) ∧ o ≤ j ∧ j < o + n ∧ c (j - o) = true
  · rw [if_pos q]; exact Or.inl rfl
  · rw [if_neg q]; exact Or.inr rfl
/-- clearing rows keeps what is sound -/
theorem rc_clr (h : RC σ m) (hi : Inv m) {p : Nat} (hp : p < 8) {c c' : Nat → Bool} {n n' : Nat} (hn : n ≤ 12) (hn' : n' ≤ 12) (hc : ∀ x, x < 12 → ((x < n ∧ c x = true) ↔ (x < n' ∧ c' x = true)) ∨ (σ.2 (12 + p) x = 0 ∧ σ.2 (20 + p) x = 0)) : RC (σ.1, clF σ.2 (12 + p) (20 + p) 0 c n) (m.1, clF m.2 8 9 (12 * p) c' n') ∧ Inv (m.1, clF m.2 8 9 (12 * p) c' n') := by
  have n1 : 12 + p ≠ 20 + p := by omega
  have n2 : (8 : Nat) ≠ 9 := by decide
  have go : ∀ a, a < 12 → clF σ.2 (12 + p) (20 + p) 0 c n a = σ.2 a := fun a ha => clF_ne n1 (by omega) (by omega)
  have gm : ∀ a, a < 8 → clF m.2 8 9 (12 * p) c' n' a = m.2 a := fun a ha => clF_ne n2 (by omega) (by omega)
  obtain ⟨ha, hs, hcc, hd, he⟩ := h
  obtain ⟨h1, h2, h3, h4, h5, h6, h7⟩ := hi
  refine ⟨⟨ha, ?_, ?_, row_clr hp hn hn' hd hc, ?_⟩, ⟨?_, h2, h3, h4, ?_, ?_, ?_⟩⟩
  · dsimp only
    rw [go 1 (by decide)]; exact hs
  · dsimp only
    rw [go 2 (by decide), go 4 (by decide), go 5 (by decide), go 6 (by decide), go 7 (by decide), go 8 (by decide), gm 2 (by decide), gm 3 (by decide), gm 4 (by decide), gm 5 (by decide), gm 6 (by decide), gm 7 (by decide)]
    exact hcc
  · intro s x hs hx
    have e1 : (clF m.2 8 9 (12 * p) c' n') 1 = m.2 1 := gm 1 (by decide)
    have e3 : (clF σ.2 (12 + p) (20 + p) 0 c n) 3 = σ.2 3 := go 3 (by decide)
    have := he s x hs hx
    simp only [e1, e3]
    exact this
  · refine ⟨h1.1, h1.2.1, ?_, h1.2.2.2⟩
    dsimp only
    rw [gm 4 (by decide)]
    exact h1.2.2.1
  · intro q x hq hx
    dsimp only
    rcases clF_or n2 (g := m.2) (o := 12 * p) (c := c') (n := n') 9 (12 * q + x) with y | y
    · rw [y]; exact ⟨0, by omega, rfl⟩
    · rw [y]; exact h5 q x hq hx
  · dsimp only
    rw [gm 6 (by decide)]; exact h6
  · intro q x hq hx1 hx2
    dsimp only
    obtain ⟨y1, y2⟩ := h7 q x hq hx1 hx2
    refine ⟨?_, ?_⟩
    · rcases clF_or n2 (g := m.2) (o := 12 * p) (c := c') (n := n') 8 (12 * q + x) with y | y
      · exact y
      · exact y.trans y1
    · rcases clF_or n2 (g := m.2) (o := 12 * p) (c := c') (n := n') 9 (12 * q + x) with y | y
      · exact y
      · exact y.trans y2
theorem mv_basket (h : RC σ m) (hi : Inv m) (p s : Int32) : (cBasketF σ p s).1 = (mBasketF m p s).1 ∧ RC (cBasketF σ p s).2 (mBasketF m p s).2 ∧ Inv (mBasketF m p s).2 := by
  unfold cBasketF mBasketF
  rw [h.1.2.1, h.1.2.2.2]
  by_cases q : isInF p 0 7 = true ∧ isInF s 1 ((1 : Int32) <<< (m.1 0 &&& 31) - 1) = true ∧ ¬ m.1 2 = 60
  · rw [if_pos q, if_pos q]
    obtain ⟨p, hp1, rfl, -, e1⟩ := mPers_ix q.1
    have hn := hi.1.1.2
    have hb := hi.1.2.1
    have hb2 : mBn m < 60 := by
      have : ¬ mBn m = 60 := fun z => q.2.2 (by rw [hb.1, z]; rfl)
      have := hb.2
      omega
    obtain ⟨v, hv0, hv1, hve⟩ := (set_in hn).mp (by have z := q.2.1; rw [hi.1.1.1, all_m1 hn] at z; exact z)
    rw [e1]
    refine ⟨rfl, ?_⟩
    have hcb := rc_bn h
    have hct := rc_tn h
    have hr : RC (upd σ.1 7 (σ.1 7 + 1), up2 (up2 (up2 σ.2 5 (cBn σ) (nI p)) 6 (cBn σ) (σ.1 0)) 7 (cBn σ) s) (upd m.1 2 (m.1 2 + 1), up2 (up2 (up2 m.2 4 (mBn m) (nI p)) 5 (mBn m) (m.1 1)) 6 (mBn m) s) := by
      obtain ⟨⟨a1, a2, a3, a4⟩, hs, ⟨c1, c2, c3, c4, c5, c6⟩, hd, he⟩ := h
      rw [hcb]
      refine ⟨⟨?_, ?_, ?_, ?_⟩, ?_, ⟨?_, ?_, ?_, ?_, ?_, ?_⟩, ?_, ?_⟩
      · simpa [upd] using a1
      · simpa [upd] using a2
      · simpa [upd] using a3
      · simp [upd, a4]
      · simpa [up2, upd] using hs
      · simpa [up2] using c1
      · simpa [up2] using c2
      · simp [up2, c3]
      · simp [up2, c4, a1]
      · simp [up2, c5]
      · simpa [up2] using c6
      · intro q x hq hx
        have y1 : ¬ 12 + q = 5 ∧ ¬ 12 + q = 6 ∧ ¬ 12 + q = 7 := by omega
        have y2 : ¬ 20 + q = 5 ∧ ¬ 20 + q = 6 ∧ ¬ 20 + q = 7 := by omega
        simpa [up2, y1, y2] using hd q x hq hx
      · exact he
    have hv : Inv (upd m.1 2 (m.1 2 + 1), up2 (up2 (up2 m.2 4 (mBn m) (nI p)) 5 (mBn m) (m.1 1)) 6 (mBn m) s) := by
      obtain ⟨⟨h1, h2, h3, h4⟩, i2, i3, i4, i5, i6, i7⟩ := hi
      have f2 : upd m.1 2 (m.1 2 + 1) 2 = nI (mBn m + 1) := by rw [mx_u, if_pos rfl, hb.1, nI_1]
      have mb : mBn (upd m.1 2 (m.1 2 + 1), up2 (up2 (up2 m.2 4 (mBn m) (nI p)) 5 (mBn m) (m.1 1)) 6 (mBn m) s) = mBn m + 1 := by
        have : (nI (mBn m + 1)).toNatClampNeg = mBn m + 1 := nI_clamp (by omega)
        rw [← this, ← f2]
        rfl
      refine ⟨⟨h1, ⟨by rw [mb]; exact f2, by rw [mb]; omega⟩, ?_, h4⟩, i2, i3, i4, ?_, ?_, ?_⟩
      · rw [mb]
        intro i hib
        have y : up2 (up2 (up2 m.2 4 (mBn m) (nI p)) 5 (mBn m) (m.1 1)) 6 (mBn m) s 4 i = if i = mBn m then nI p else m.2 4 i := by simp [up2, upd]
        by_cases z : i = mBn m
        · exact ⟨p, hp1, y.trans (if_pos z)⟩
        · obtain ⟨p2, hp2, e2⟩ := h3 i (by omega)
          exact ⟨p2, hp2, (y.trans (if_neg z)).trans e2⟩
      · intro q x hq hx
        simpa [up2] using i5 q x hq hx
      · rw [mb]
        intro i hib
        have y : up2 (up2 (up2 m.2 4 (mBn m) (nI p)) 5 (mBn m) (m.1 1)) 6 (mBn m) s 6 i = if i = mBn m then s else m.2 6 i := by simp [up2, upd]
        by_cases z : i = mBn m
        · exact ⟨v, hv1, (y.trans (if_pos z)).trans hve⟩
        · obtain ⟨p2, hp2, e2⟩ := i6 i (by omega)
          exact ⟨p2, hp2, (y.trans (if_neg z)).trans e2⟩
      · intro q x hq hx1 hx2
        simpa [up2] using i7 q x hq hx1 hx2
    have ht3 : cTn (upd σ.1 7 (σ.1 7 + 1), up2 (up2 (up2 σ.2 5 (cBn σ) (nI p)) 6 (cBn σ) (σ.1 0)) 7 (cBn σ) s) = mTn m := hct
    have := rc_clr hr hv hp1 (c := fun x => hB s (nI x)) (c' := fun x => hB s (nI x)) (n := mTn m) (n' := mTn m) hn hn (fun x hx => Or.inl Iff.rfl)
    unfold cBaskS cClr mBaskS
    rw [ht3]
    exact this
  · rw [if_neg q, if_neg q]
    exact ⟨rfl, h, hi⟩
end MMV4
