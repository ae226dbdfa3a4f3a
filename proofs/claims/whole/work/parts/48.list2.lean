theorem sumF_cong2 {w w' : Nat → Int32} {t : Nat} {s : Int32} (h : ∀ x, x < t → hB s (nI x) = true → w x = w' x) : sumF w t s = sumF w' t s := by
  have key : ∀ n, n ≤ t → smN (fun x => if hB s (nI x) = true then w x else 0) n = smN (fun x => if hB s (nI x) = true then w' x else 0) n := by
    intro n
    induction n with
    | zero => intro _; rfl
    | succ n ih =>
      intro hn
      unfold smN
      rw [ih (by omega)]
      by_cases q : hB s (nI n) = true
      · rw [if_pos q, if_pos q, h n (by omega) q]
      · rw [if_neg q, if_neg q]
  exact key t (Nat.le_refl t)
theorem sumF_0 {w : Nat → Int32} {t : Nat} (ht : t ≤ 12) : sumF w t 0 = 0 := by
  have key : ∀ n, n ≤ t → smN (fun x => if hB 0 (nI x) = true then w x else 0) n = 0 := by
    intro n
    induction n with
    | zero => intro _; rfl
    | succ n ih =>
      intro hn
      unfold smN
      rw [ih (by omega), if_neg (by rw [hB_bt (by omega), b_0]; decide)]
      rfl
  exact key t (Nat.le_refl t)
theorem sub_of {C v : Nat} (hv : v < 4096) (h : nI v &&& (nI C ^^^ (-1)) = 0) : v &&& C = v := by
  refine Nat.eq_of_testBit_eq (fun i => ?_)
  rw [Nat.testBit_and]
  by_cases hi : i < 32
  · have := congrArg (fun z => bt z i) h
    simp only [b_and, b_xor, bt_nI hi, b_m1 i hi, b_0] at this
    cases h1 : v.testBit i <;> cases h2 : C.testBit i <;> simp [h1, h2] at this ⊢
  · rw [Nat.testBit_lt_two_pow (Nat.lt_of_lt_of_le (show v < 2 ^ 12 by omega) (Nat.pow_le_pow_right (by decide) (by omega)))]
    rfl
/-- the best is a set of candidates, and its sum is its sum -/
theorem lst_best {k need : Int32} {keep : Int32 → Bool} {sum : Int32 → Int32} {C : Nat} (h0 : sum 0 = 0) : ∀ n, n < 4096 → (∃ v, v &&& C = v ∧ (lstF (nI C) k need keep sum n).1 = nI v) ∧ (lstF (nI C) k need keep sum n).2 = sum (lstF (nI C) k need keep sum n).1
  | 0, _ => ⟨⟨0, by simp, rfl⟩, h0.symm⟩
  | n + 1, hn => by
    obtain ⟨h1, h2⟩ := lst_best (k := k) (need := need) (keep := keep) h0 n (by omega)
    show (∃ v, v &&& C = v ∧ (lstS (nI C) k need keep sum (nI (n + 1)) (lstF (nI C) k need keep sum n)).1 = nI v) ∧ (lstS (nI C) k need keep sum (nI (n + 1)) (lstF (nI C) k need keep sum n)).2 = sum (lstS (nI C) k need keep sum (nI (n + 1)) (lstF (nI C) k need keep sum n)).1
    generalize lstF (nI C) k need keep sum n = b at h1 h2 ⊢
    unfold lstS
    by_cases q : nI (n + 1) &&& (nI C ^^^ (-1)) = 0 ∧ bitF (nI (n + 1)) ≤ k ∧ bitF b.1 ≤ bitF (nI (n + 1)) ∧ (need = 0 ∨ ¬ nI (n + 1) &&& need = 0) ∧ keep (nI (n + 1)) = true ∧ ¬ (bitF (nI (n + 1)) = bitF b.1 ∧ sum (nI (n + 1)) ≤ b.2)
    · rw [if_pos q]
      exact ⟨⟨n + 1, sub_of hn q.1, rfl⟩, rfl⟩
    · rw [if_neg q]
      exact ⟨h1, h2⟩
section MLIST2
variable {σ m : mS}
theorem rc_lst (h : RC σ m) (hi : Inv m) {p : Nat} (hp : p < 8) (k : Int32) : (cBst σ (nI p) k (2 ^ cPop (cMay σ (nI p)) - 1)).2.1 = (mLst m (nI p) k).1 ∧ sumF ((cBlp σ (nI p)).2 11) (cTn σ) (mLst m (nI p) k).1 = (mLst m (nI p) k).2 := by
  have hn := hi.1.1.2
  have hpw := pow12 hn
  have hok := rc_ok h hi
  obtain ⟨C, hC, hCe⟩ := cMay_ix hok (nI p)
  rw [rc_tn h] at hC
  have hC4 : C < 4096 := by omega
  have hmay := rc_may h hn hp
  have hms : mMay m (nI p) = nI C := hmay.symm.trans hCe
  have hpop : cPop (cMay σ (nI p)) = popW 32 C := by
    unfold cPop
    rw [hCe, bc_small hC4, nI_clamp (Nat.lt_of_le_of_lt (cN_le _ _) (by omega)), popW_cN]
    have e1 : cN (fun k => C.testBit k) (12 + 20) = cN (fun k => C.testBit k) 12 := cN_hi 12 20 (fun k h1 h2 => Nat.testBit_lt_two_pow (Nat.lt_of_lt_of_le (show C < 2 ^ 12 by omega) (Nat.pow_le_pow_right (by decide) h1)))
    rw [show (32 : Nat) = 12 + 20 from rfl, e1]
    exact cN_cong (fun k hk => bt_nI (by omega))
  have hkp : ∀ v, v &&& C = v → cKeep σ (nI v) = mKeep m (nI v) := fun v hv => rc_keep h hn (by have := sub_le hv; omega)
  have hsm : ∀ v, v &&& C = v → sumF ((cBlp σ (nI p)).2 11) (cTn σ) (nI v) = sumF (fun x => mSco m (nI p) (nI x)) (mTn m) (nI v) := fun v hv => by
    rw [rc_tn h]
    refine sumF_cong2 (fun x hx hb => ?_)
    rw [← rc_sco h]
    refine wcG_in (by rw [rc_tn h]; exact hx) ?_
    rw [hCe, hB_bt (by omega), bt_nI (by omega)]
    rw [hB_bt (by omega), bt_nI (by omega), ← hv, Nat.testBit_and, Bool.and_eq_true] at hb
    exact hb.2
  have h1 : 1 ≤ 2 ^ popW 32 C := Nat.one_le_two_pow
  obtain ⟨b1, b2, b3⟩ := bl_lst (k := k) (need := mNeed m (nI p)) hC4 hkp hsm (2 ^ popW 32 C - 1) (by omega)
  rw [dep_top 32 C (by omega)] at b2
  have hlast : lstF (nI C) k (mNeed m (nI p)) (mKeep m) (sumF (fun x => mSco m (nI p) (nI x)) (mTn m)) (2 ^ mTn m - 1) = lstF (nI C) k (mNeed m (nI p)) (mKeep m) (sumF (fun x => mSco m (nI p) (nI x)) (mTn m)) C := by
    have := lst_skip (may := nI C) (k := k) (need := mNeed m (nI p)) (keep := mKeep m) (sum := sumF (fun x => mSco m (nI p) (nI x)) (mTn m)) (C := C) (a := C) rfl (2 ^ mTn m - 1 - C) (by omega) hC4 (fun v hv1 hv2 hv3 => by have := sub_le hv3; omega)
    rwa [show C + (2 ^ mTn m - 1 - C) = 2 ^ mTn m - 1 by omega] at this
  have hm : mLst m (nI p) k = lstF (nI C) k (mNeed m (nI p)) (mKeep m) (sumF (fun x => mSco m (nI p) (nI x)) (mTn m)) (2 ^ mTn m - 1) := by unfold mLst; rw [hms]
  have hc : cBst σ (nI p) k (2 ^ cPop (cMay σ (nI p)) - 1) = blF (nI C) k (mNeed m (nI p)) (cKeep σ) (sumF ((cBlp σ (nI p)).2 11) (cTn σ)) (2 ^ popW 32 C - 1) := by
    rw [hpop]
    unfold cBst
    rw [hCe, rc_need h hn hp]
  obtain ⟨⟨v, hv, hve⟩, hsum⟩ := lst_best (k := k) (need := mNeed m (nI p)) (keep := mKeep m) (sum := sumF (fun x => mSco m (nI p) (nI x)) (mTn m)) (C := C) (sumF_0 hn) (2 ^ mTn m - 1) (by omega)
  refine ⟨?_, ?_⟩
  · rw [hc, hm, hlast, b2]
  · rw [hm, hsum, hve]
    exact hsm v hv
theorem mv_list (h : RC σ m) (hi : Inv m) (p k w : Int32) : (cListF σ p k w).1 = (mListF m p k w).1 ∧ RC (cListF σ p k w).2 (mListF m p k w).2 ∧ Inv (mListF m p k w).2 := by
  unfold cListF mListF
  by_cases q : isInF p 0 7 = true ∧ isInF k 1 5 = true ∧ isInF w 0 1 = true
  · have q2 : isInF w 0 1 = true ∧ isInF p 0 7 = true ∧ isInF k 1 5 = true := ⟨q.2.2, q.1, q.2.1⟩
    rw [if_pos q, if_pos q2]
    obtain ⟨p, hp1, rfl, -, -⟩ := mPers_ix q.1
    obtain ⟨e1, e2⟩ := rc_lst h hi hp1 k
    have hE : cEq σ (cBlp σ (nI p)) := wcG_eq _ _ _ _
    have hM : mEq m (mLsP m (nI p) k) := mLs_eq _ _ _ _
    refine ⟨?_, rc_mEq (rc_cEq h hE) hM, inv_mEq hi hM⟩
    dsimp only
    rw [e1, e2]
  · have q2 : ¬ (isInF w 0 1 = true ∧ isInF p 0 7 = true ∧ isInF k 1 5 = true) := fun z => q ⟨z.2.1, z.2.2, z.1⟩
    rw [if_neg q, if_neg q2]
    exact ⟨rfl, h, hi⟩
end MLIST2
