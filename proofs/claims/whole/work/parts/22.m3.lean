theorem shF_out (f : Nat → Int32) (i : Nat) : ∀ (n k : Nat), i + n ≤ k → shF f i n k = f k
  | 0, _, _ => rfl
  | n + 1, k, h => by
    show upd (shF f i n) (i + n) _ k = f k
    rw [mx_u, if_neg (by omega)]
    exact shF_out f i n k (by omega)
theorem shF_in (f : Nat → Int32) (i : Nat) : ∀ (n k : Nat), i ≤ k → k < i + n → shF f i n k = f (k + 1)
  | 0, k, h, h2 => by omega
  | n + 1, k, h, h2 => by
    show upd (shF f i n) (i + n) _ k = f (k + 1)
    rw [mx_u]
    by_cases e : k = i + n
    · rw [if_pos e, shF_out f i n _ (by omega), e]
    · rw [if_neg e]
      exact shF_in f i n k h (by omega)
theorem shF_lo (f : Nat → Int32) (i : Nat) : ∀ (n k : Nat), k < i → shF f i n k = f k
  | 0, _, _ => rfl
  | n + 1, k, h => by
    show upd (shF f i n) (i + n) _ k = f k
    rw [mx_u, if_neg (by omega)]
    exact shF_lo f i n k h
/-- three arrays with places from i on moved down, n of them -/
def shG (g : Nat → Nat → Int32) (a0 i n : Nat) : Nat → Nat → Int32 := fun a => if a = a0 ∨ a = a0 + 1 ∨ a = a0 + 2 then shF (g a) i n else g a
theorem shG_0 (g : Nat → Nat → Int32) (a0 i : Nat) : shG g a0 i 0 = g := by
  funext a
  simp [shG, shF]
theorem shG_s (g : Nat → Nat → Int32) (a0 i n : Nat) : up2 (up2 (up2 (shG g a0 i n) a0 (i + n) (shF (g a0) i n (i + n + 1))) (a0 + 1) (i + n) (shF (g (a0 + 1)) i n (i + n + 1))) (a0 + 2) (i + n) (shF (g (a0 + 2)) i n (i + n + 1)) = shG g a0 i (n + 1) := by
  funext a
  by_cases h2 : a = a0 + 2
  · subst h2
    simp [up2, shG, shF]
  · by_cases h1 : a = a0 + 1
    · subst h1
      simp [up2, shG, shF]
    · by_cases h0 : a = a0
      · subst h0
        simp [up2, shG, shF]
      · simp [up2, shG, h0, h1, h2]
def mGoF (σ : mS) (i : Nat) : mS := (upd σ.1 2 (nI (mBn σ - 1)), shG σ.2 4 i (mBn σ - 1 - i))
def spX1_goes : mC := mGv 1 false (fun σ xs => mOk σ ∧ ∃ i, i < mBn σ ∧ mArg xs 0 = nI i) (fun σ xs => mGoF σ (mArg xs 0).toNatClampNeg)
set_option maxHeartbeats 8000000 in
set_option maxRecDepth 100000 in
theorem ctX1_goes : mCt hX1 1 20 vwC yX1_goes cX1_goes 3 none 0 spX1_goes := by
  refine mMeet (k := (kX1 [])) (bl := 2) (own := RX1) (C := RX1) (T := TX1) (ty0 := tyX1) (by decide +kernel) rfl (tbX1 _) mCal_nil (Or.inr (Or.inr ⟨rfl, rfl, rfl⟩)) (by decide) ?_
  intro σ xs hlen hpre X hX
  obtain ⟨a0, rfl⟩ := mx_l1 xs hlen
  change X (0, [some (.ref 0), some (.int a0), none], [], σ)
  obtain ⟨hpre, i, hi, hai⟩ : mOk σ ∧ ∃ i, i < mBn σ ∧ a0 = nI i := hpre
  subst hai
  obtain ⟨-, ⟨hb, hn⟩, -, -⟩ := id hpre
  have e0 : (nI i).toNatClampNeg = i := nI_clamp (by omega)
  have hm1 : nI (mBn σ) - 1 = nI (mBn σ - 1) := pk_sub (b := 1) (by omega)
  have key := mFor (X := X) (mBn σ - 1 - i) (fun k => (12, [some (.ref 0), some (.int (nI i)), some (.int (nI (i + k)))], [], (upd σ.1 2 (nI (mBn σ - 1)), shG σ.2 4 i k))) ?_ ?_ 0 (Nat.zero_le _)
  · refine mWalk hX [12] 40 ?_
    simp only [mRun, mCut, mAt, mSet, mArgs, mFind, mLdI, mLdA, mStI, mInc, mBin, mDiv, mJ1, mJ2, mN1, mN2, mGet, mPut, mLdE, mStE, mLdR, mKon, mDup, mDup2, mAft, mCaV, mCaS, mRetI, mRetV, fX1_7, fX1_13, fX1_16, fX1_19, fX1_22, fX1_26, fX1_29, fX1_32, fX1_35, fX1_38, fX1_41, fX1_44, fX1_47, fX1_50, fX1_53, fX1_60, fX1_63, fX1_73, fX1_105, fX1_108, oX1_94, cX1_c, nX1_0, vX1_0, nX1_1, vX1_1, nX1_2, vX1_2, nX1_3, vX1_3, nX1_4, vX1_4, nX1_5, vX1_5, nX1_6, vX1_6, nX1_7, vX1_7, vX1_8, vX1_9, vX1_10, vX1_11, vX1_12, vX1_13, vX1_14, vX1_15, vX1_16, vX1_17, nX1_18, vX1_18, nX1_19, vX1_19, lX1_1, aX1_1, lX1_2, aX1_2, lX1_3, aX1_3, lX1_4, aX1_4, lX1_5, aX1_5, lX1_6, aX1_6, lX1_7, aX1_7, lX1_8, aX1_8, lX1_9, aX1_9, lX1_10, aX1_10, gX1_n, vX1_goes_0, vX1_goes_1, vX1_goes_2, vX1_goes_5, vX1_goes_6, vX1_goes_7, vX1_goes_10, vX1_goes_11, vX1_goes_12, vX1_goes_13, vX1_goes_14, vX1_goes_17, vX1_goes_20, vX1_goes_21, vX1_goes_24, vX1_goes_25, vX1_goes_26, vX1_goes_29, vX1_goes_30, vX1_goes_31, vX1_goes_32, vX1_goes_33, vX1_goes_34, vX1_goes_35, vX1_goes_38, vX1_goes_39, vX1_goes_40, vX1_goes_43, vX1_goes_44, vX1_goes_45, vX1_goes_46, vX1_goes_47, vX1_goes_48, vX1_goes_49, vX1_goes_52, vX1_goes_53, vX1_goes_54, vX1_goes_57, vX1_goes_58, vX1_goes_59, vX1_goes_60, vX1_goes_61, vX1_goes_62, vX1_goes_65, vX1_goes_68, Nat.reduceAdd, Nat.reduceSub, Nat.reduceBEq, Nat.reduceEqDiff, Nat.reduceLeDiff, Int.reduceAdd, Int.reduceSub, Int.reduceNeg, Int.reduceToNat, Int.reduceLE, Int.reduceLT, Int.zero_add, Nat.zero_add, List.toList_toArray, Option.map_some, Bool.or_false, Bool.or_true, Bool.false_or, Bool.true_or, Bool.or_self, cond_false, cond_true, List.length_cons, List.length_nil, true_and, and_true, forall_eq, forall_eq_apply_imp_iff, and_imp, ite_true, ite_false, reduceIte, true_or, or_true, false_or, or_false, false_and, and_false, eq_self, List.drop_succ_cons, List.drop_zero, List.zip_cons_cons, List.zip_nil_right, List.all_cons, List.all_nil, false_implies, true_implies, Bool.true_eq_false, Bool.false_eq_true, not_false_eq_true, not_true_eq_false, mx_u, mx_u2, mx_b0, mx_b1, Bool.not_eq_false, Bool.not_eq_true, Nat.le_refl, ne_eq, mG, mF, mGv, Int32.add_sub_cancel, spX1_goes, mArg, hb, hm1]
    have := key
    rw [shG_0] at this
    exact this
  · refine mWalk hX [12] 40 ?_
    have c1 : nI (mBn σ - 1) ≤ nI (i + (mBn σ - 1 - i)) := nI_le (by omega) (by omega)
    simp only [mRun, mCut, mAt, mSet, mArgs, mFind, mLdI, mLdA, mStI, mInc, mBin, mDiv, mJ1, mJ2, mN1, mN2, mGet, mPut, mLdE, mStE, mLdR, mKon, mDup, mDup2, mAft, mCaV, mCaS, mRetI, mRetV, fX1_7, fX1_13, fX1_16, fX1_19, fX1_22, fX1_26, fX1_29, fX1_32, fX1_35, fX1_38, fX1_41, fX1_44, fX1_47, fX1_50, fX1_53, fX1_60, fX1_63, fX1_73, fX1_105, fX1_108, oX1_94, cX1_c, nX1_0, vX1_0, nX1_1, vX1_1, nX1_2, vX1_2, nX1_3, vX1_3, nX1_4, vX1_4, nX1_5, vX1_5, nX1_6, vX1_6, nX1_7, vX1_7, vX1_8, vX1_9, vX1_10, vX1_11, vX1_12, vX1_13, vX1_14, vX1_15, vX1_16, vX1_17, nX1_18, vX1_18, nX1_19, vX1_19, lX1_1, aX1_1, lX1_2, aX1_2, lX1_3, aX1_3, lX1_4, aX1_4, lX1_5, aX1_5, lX1_6, aX1_6, lX1_7, aX1_7, lX1_8, aX1_8, lX1_9, aX1_9, lX1_10, aX1_10, gX1_n, vX1_goes_0, vX1_goes_1, vX1_goes_2, vX1_goes_5, vX1_goes_6, vX1_goes_7, vX1_goes_10, vX1_goes_11, vX1_goes_12, vX1_goes_13, vX1_goes_14, vX1_goes_17, vX1_goes_20, vX1_goes_21, vX1_goes_24, vX1_goes_25, vX1_goes_26, vX1_goes_29, vX1_goes_30, vX1_goes_31, vX1_goes_32, vX1_goes_33, vX1_goes_34, vX1_goes_35, vX1_goes_38, vX1_goes_39, vX1_goes_40, vX1_goes_43, vX1_goes_44, vX1_goes_45, vX1_goes_46, vX1_goes_47, vX1_goes_48, vX1_goes_49, vX1_goes_52, vX1_goes_53, vX1_goes_54, vX1_goes_57, vX1_goes_58, vX1_goes_59, vX1_goes_60, vX1_goes_61, vX1_goes_62, vX1_goes_65, vX1_goes_68, Nat.reduceAdd, Nat.reduceSub, Nat.reduceBEq, Nat.reduceEqDiff, Nat.reduceLeDiff, Int.reduceAdd, Int.reduceSub, Int.reduceNeg, Int.reduceToNat, Int.reduceLE, Int.reduceLT, Int.zero_add, Nat.zero_add, List.toList_toArray, Option.map_some, Bool.or_false, Bool.or_true, Bool.false_or, Bool.true_or, Bool.or_self, cond_false, cond_true, List.length_cons, List.length_nil, true_and, and_true, forall_eq, forall_eq_apply_imp_iff, and_imp, ite_true, ite_false, reduceIte, true_or, or_true, false_or, or_false, false_and, and_false, eq_self, List.drop_succ_cons, List.drop_zero, List.zip_cons_cons, List.zip_nil_right, List.all_cons, List.all_nil, false_implies, true_implies, Bool.true_eq_false, Bool.false_eq_true, not_false_eq_true, not_true_eq_false, mx_u, mx_u2, mx_b0, mx_b1, Bool.not_eq_false, Bool.not_eq_true, Nat.le_refl, ne_eq, mG, mF, mGv, Int32.add_sub_cancel, spX1_goes, mArg, c1, mGoF, e0]
  · intro k hk ih
    have c1 : ¬ nI (mBn σ - 1) ≤ nI (i + k) := nI_ge (by omega) (by omega)
    obtain ⟨v1, e1⟩ := nI_i (j := i + k) (n := 60) (by omega) (by omega)
    obtain ⟨v2, e2⟩ := nI_i (j := i + k + 1) (n := 60) (by omega) (by omega)
    refine mWalk hX [12] 40 ?_
    simp only [mRun, mCut, mAt, mSet, mArgs, mFind, mLdI, mLdA, mStI, mInc, mBin, mDiv, mJ1, mJ2, mN1, mN2, mGet, mPut, mLdE, mStE, mLdR, mKon, mDup, mDup2, mAft, mCaV, mCaS, mRetI, mRetV, fX1_7, fX1_13, fX1_16, fX1_19, fX1_22, fX1_26, fX1_29, fX1_32, fX1_35, fX1_38, fX1_41, fX1_44, fX1_47, fX1_50, fX1_53, fX1_60, fX1_63, fX1_73, fX1_105, fX1_108, oX1_94, cX1_c, nX1_0, vX1_0, nX1_1, vX1_1, nX1_2, vX1_2, nX1_3, vX1_3, nX1_4, vX1_4, nX1_5, vX1_5, nX1_6, vX1_6, nX1_7, vX1_7, vX1_8, vX1_9, vX1_10, vX1_11, vX1_12, vX1_13, vX1_14, vX1_15, vX1_16, vX1_17, nX1_18, vX1_18, nX1_19, vX1_19, lX1_1, aX1_1, lX1_2, aX1_2, lX1_3, aX1_3, lX1_4, aX1_4, lX1_5, aX1_5, lX1_6, aX1_6, lX1_7, aX1_7, lX1_8, aX1_8, lX1_9, aX1_9, lX1_10, aX1_10, gX1_n, vX1_goes_0, vX1_goes_1, vX1_goes_2, vX1_goes_5, vX1_goes_6, vX1_goes_7, vX1_goes_10, vX1_goes_11, vX1_goes_12, vX1_goes_13, vX1_goes_14, vX1_goes_17, vX1_goes_20, vX1_goes_21, vX1_goes_24, vX1_goes_25, vX1_goes_26, vX1_goes_29, vX1_goes_30, vX1_goes_31, vX1_goes_32, vX1_goes_33, vX1_goes_34, vX1_goes_35, vX1_goes_38, vX1_goes_39, vX1_goes_40, vX1_goes_43, vX1_goes_44, vX1_goes_45, vX1_goes_46, vX1_goes_47, vX1_goes_48, vX1_goes_49, vX1_goes_52, vX1_goes_53, vX1_goes_54, vX1_goes_57, vX1_goes_58, vX1_goes_59, vX1_goes_60, vX1_goes_61, vX1_goes_62, vX1_goes_65, vX1_goes_68, Nat.reduceAdd, Nat.reduceSub, Nat.reduceBEq, Nat.reduceEqDiff, Nat.reduceLeDiff, Int.reduceAdd, Int.reduceSub, Int.reduceNeg, Int.reduceToNat, Int.reduceLE, Int.reduceLT, Int.zero_add, Nat.zero_add, List.toList_toArray, Option.map_some, Bool.or_false, Bool.or_true, Bool.false_or, Bool.true_or, Bool.or_self, cond_false, cond_true, List.length_cons, List.length_nil, true_and, and_true, forall_eq, forall_eq_apply_imp_iff, and_imp, ite_true, ite_false, reduceIte, true_or, or_true, false_or, or_false, false_and, and_false, eq_self, List.drop_succ_cons, List.drop_zero, List.zip_cons_cons, List.zip_nil_right, List.all_cons, List.all_nil, false_implies, true_implies, Bool.true_eq_false, Bool.false_eq_true, not_false_eq_true, not_true_eq_false, mx_u, mx_u2, mx_b0, mx_b1, Bool.not_eq_false, Bool.not_eq_true, Nat.le_refl, ne_eq, mG, mF, mGv, Int32.add_sub_cancel, spX1_goes, mArg, c1, v1, e1, v2, e2, nI_1]
    rw [← shG_s] at ih
    simpa [up2, shG, upd, ← Nat.add_assoc] using ih
set_option maxRecDepth 100000 in
theorem okX1_76 {d : Nat} (hd : 0 + 1 ≤ d) : mOK hX1 1 20 vwC RX1 RX1 d 76 spX1_goes := ⟨yX1_goes, cX1_goes, 3, none, 0, ctX1_goes, hd, by decide, by decide +kernel, by decide +kernel, by decide +kernel, by decide +kernel, fun h => (by cases h), fun _ => ⟨by decide +kernel, by decide +kernel⟩⟩
def mDropF (σ : mS) (i : Int32) : Int32 × mS := if isInF i 0 (σ.1 2 - 1) = true then (1, mGoF σ i.toNatClampNeg) else (0, σ)
def spX1_drop : mC := mG 1 false (fun σ _ => mOk σ) (fun σ xs => mDropF σ (mArg xs 0))
set_option maxHeartbeats 8000000 in
set_option maxRecDepth 100000 in
theorem ctX1_drop : mCt hX1 1 20 vwC yX1_drop cX1_drop 2 (some .boolean) 1 spX1_drop := by
  refine mMeet (k := (kX1 [(56, spX1_isIn), (76, spX1_goes)])) (bl := 1) (own := RX1) (C := RX1) (T := TX1) (ty0 := tyX1) (by decide +kernel) rfl (tbX1 _) (mCal_cons (okX1_56 (by decide)) (mCal_cons (okX1_76 (by decide)) mCal_nil)) (Or.inr (Or.inl ⟨rfl, rfl, rfl⟩)) (by decide) ?_
  intro σ xs hlen hpre X hX
  obtain ⟨a0, rfl⟩ := mx_l1 xs hlen
  change X (0, [some (.ref 0), some (.int a0)], [], σ)
  have hpre : mOk σ := hpre
  refine mWalk hX [] 40 ?_
  simp only [mRun, mCut, mAt, mSet, mArgs, mFind, mLdI, mLdA, mStI, mInc, mBin, mDiv, mJ1, mJ2, mN1, mN2, mGet, mPut, mLdE, mStE, mLdR, mKon, mDup, mDup2, mAft, mCaV, mCaS, mRetI, mRetV, fX1_7, fX1_13, fX1_16, fX1_19, fX1_22, fX1_26, fX1_29, fX1_32, fX1_35, fX1_38, fX1_41, fX1_44, fX1_47, fX1_50, fX1_53, fX1_60, fX1_63, fX1_73, fX1_105, fX1_108, oX1_94, cX1_c, nX1_0, vX1_0, nX1_1, vX1_1, nX1_2, vX1_2, nX1_3, vX1_3, nX1_4, vX1_4, nX1_5, vX1_5, nX1_6, vX1_6, nX1_7, vX1_7, vX1_8, vX1_9, vX1_10, vX1_11, vX1_12, vX1_13, vX1_14, vX1_15, vX1_16, vX1_17, nX1_18, vX1_18, nX1_19, vX1_19, lX1_1, aX1_1, lX1_2, aX1_2, lX1_3, aX1_3, lX1_4, aX1_4, lX1_5, aX1_5, lX1_6, aX1_6, lX1_7, aX1_7, lX1_8, aX1_8, lX1_9, aX1_9, lX1_10, aX1_10, gX1_n, vX1_drop_0, vX1_drop_1, vX1_drop_2, vX1_drop_3, vX1_drop_6, vX1_drop_7, vX1_drop_8, vX1_drop_11, vX1_drop_14, vX1_drop_15, vX1_drop_16, vX1_drop_17, vX1_drop_18, vX1_drop_21, vX1_drop_22, Nat.reduceAdd, Nat.reduceSub, Nat.reduceBEq, Nat.reduceEqDiff, Nat.reduceLeDiff, Int.reduceAdd, Int.reduceSub, Int.reduceNeg, Int.reduceToNat, Int.reduceLE, Int.reduceLT, Int.zero_add, Nat.zero_add, List.toList_toArray, Option.map_some, Bool.or_false, Bool.or_true, Bool.false_or, Bool.true_or, Bool.or_self, cond_false, cond_true, List.length_cons, List.length_nil, true_and, and_true, forall_eq, forall_eq_apply_imp_iff, and_imp, ite_true, ite_false, reduceIte, true_or, or_true, false_or, or_false, false_and, and_false, eq_self, List.drop_succ_cons, List.drop_zero, List.zip_cons_cons, List.zip_nil_right, List.all_cons, List.all_nil, false_implies, true_implies, Bool.true_eq_false, Bool.false_eq_true, not_false_eq_true, not_true_eq_false, mx_u, mx_u2, mx_b0, mx_b1, Bool.not_eq_false, Bool.not_eq_true, Nat.le_refl, ne_eq, mG, mF, mGv, Int32.add_sub_cancel, spX1_drop, spX1_isIn, spX1_goes, mArg, hpre]
  refine ⟨fun h => by simp [mDropF, h], fun h => ?_⟩
  obtain ⟨j, hj, rfl, -, -⟩ := mBask_ix hpre h
  exact ⟨⟨j, hj, rfl⟩, by simp [mDropF, h]⟩
/-- baskets n - 1, n - 2 .. n - k looked at, those of which c holds gone -/
def rmF (go : mS → Nat → mS) (c : mS → Nat → Bool) (σ : mS) (n : Nat) : Nat → mS
  | 0 => σ
  | k + 1 => bif c (rmF go c σ n k) (n - 1 - k) then go (rmF go c σ n k) (n - 1 - k) else rmF go c σ n k
def rmC (go : mS → Nat → mS) (c : mS → Nat → Bool) (σ : mS) (n : Nat) : Nat → Nat
  | 0 => 0
  | k + 1 => rmC go c σ n k + (bif c (rmF go c σ n k) (n - 1 - k) then 1 else 0)
theorem mGoF_bn {σ : mS} (hb : mBn σ ≤ 60) (i : Nat) : mBn (mGoF σ i) = mBn σ - 1 := by
  show (upd σ.1 2 (nI (mBn σ - 1)) 2).toNatClampNeg = _
  rw [mx_u, if_pos rfl, nI_clamp (by omega)]
theorem mGoF_f {σ : mS} (i : Nat) {j : Nat} (hj : j ≠ 2) : (mGoF σ i).1 j = σ.1 j := by
  show upd σ.1 2 _ j = _
  rw [mx_u, if_neg hj]
theorem mGoF_g {σ : mS} (i : Nat) {a : Nat} (ha : ¬ (a = 4 ∨ a = 5 ∨ a = 6)) : (mGoF σ i).2 a = σ.2 a := by
  show shG σ.2 4 i _ a = _
  unfold shG
  rw [if_neg ha]
theorem mGoF_ok {σ : mS} (h : mOk σ) {i : Nat} (hi : i < mBn σ) : mOk (mGoF σ i) := by
  obtain ⟨⟨h1, h2⟩, ⟨h3, h4⟩, h5, h6⟩ := h
  have ht : mTn (mGoF σ i) = mTn σ := by unfold mTn; rw [mGoF_f i (by decide)]
  have hb := mGoF_bn (σ := σ) h4 i
  refine ⟨⟨?_, by rw [ht]; exact h2⟩, ⟨?_, by rw [hb]; omega⟩, fun k hk => ?_, ?_⟩
  · rw [ht, mGoF_f i (by decide)]; exact h1
  · rw [hb]
    simp [mGoF, upd]
  · rw [hb] at hk
    show ∃ p, p < 8 ∧ shG σ.2 4 i _ 4 k = nI p
    unfold shG
    rw [if_pos (Or.inl rfl)]
    by_cases hki : k < i
    · rw [shF_lo _ _ _ _ hki]; exact h5 k (by omega)
    · rw [shF_in _ _ _ _ (by omega) (by omega)]; exact h5 (k + 1) (by omega)
  · rw [mGoF_f i (by decide)]; exact h6
theorem rmF_ok {σ : mS} (h : mOk σ) (c : mS → Nat → Bool) : ∀ k, k ≤ mBn σ → mOk (rmF mGoF c σ (mBn σ) k) ∧ mBn (rmF mGoF c σ (mBn σ) k) + rmC mGoF c σ (mBn σ) k = mBn σ ∧ rmC mGoF c σ (mBn σ) k ≤ k ∧ (∀ j, j ≠ 2 → (rmF mGoF c σ (mBn σ) k).1 j = σ.1 j) ∧ (∀ a, ¬ (a = 4 ∨ a = 5 ∨ a = 6) → (rmF mGoF c σ (mBn σ) k).2 a = σ.2 a)
  | 0, _ => ⟨h, rfl, Nat.le_refl _, fun _ _ => rfl, fun _ _ => rfl⟩
  | k + 1, hk => by
    obtain ⟨h1, h2, h3, h4, h5⟩ := rmF_ok h c k (by omega)
    unfold rmF rmC
    cases c (rmF mGoF c σ (mBn σ) k) (mBn σ - 1 - k) with
    | false => exact ⟨h1, h2, by simp; omega, h4, h5⟩
    | true =>
      have hi : mBn σ - 1 - k < mBn (rmF mGoF c σ (mBn σ) k) := by omega
      have hb := mGoF_bn (σ := rmF mGoF c σ (mBn σ) k) h1.2.1.2 (mBn σ - 1 - k)
      refine ⟨mGoF_ok h1 hi, ?_, by simp; omega, fun j hj => ?_, fun a ha => ?_⟩
      · simp only [cond_true]
        rw [hb]
        omega
      · simp only [cond_true]
        rw [mGoF_f _ hj, h4 j hj]
      · simp only [cond_true]
        rw [mGoF_g _ ha, h5 a ha]
/-- the loop variable of a loop downwards -/
theorem dn_neg {n k : Nat} (hn : n ≤ 60) (hk : k ≤ n) : nI (n - k) - 1 < 0 ↔ n = k := by
  rw [Int32.lt_iff_toInt_lt, Int32.toInt_zero]
  have := pk_sub_toInt (a := n - k) (b := 1) (by omega) (by omega)
  rw [show (nI (n - k) - 1).toInt = ((n - k : Nat) : Int) - ((1 : Nat) : Int) from this]
  omega
theorem dn_at {n k : Nat} (hk : k < n) : nI (n - k) - 1 = nI (n - 1 - k) := by
  rw [show n - k = (n - 1 - k) + 1 by omega]
  exact nI_pred _
theorem dn_s {n k : Nat} : nI (n - 1 - k) + (-1) = nI (n - (k + 1)) - 1 := by
  rw [show n - (k + 1) = n - 1 - k by omega, Int32.sub_eq_add_neg]
def clF (g : Nat → Nat → Int32) (a b o : Nat) (c : Nat → Bool) : Nat → Nat → Nat → Int32
  | 0 => g
  | x + 1 => bif c x then up2 (up2 (clF g a b o c x) a (o + x) 0) b (o + x) 0 else clF g a b o c x
def mForgF (σ : mS) (p : Nat) : mS := ((rmF mGoF (fun s i => decide (s.2 4 i = nI p)) σ (mBn σ) (mBn σ)).1, clF (up2 (rmF mGoF (fun s i => decide (s.2 4 i = nI p)) σ (mBn σ) (mBn σ)).2 7 p 0) 8 9 (12 * p) (fun _ => true) 12)
def mForgetF (σ : mS) (p : Int32) : Int32 × mS := if isInF p 0 7 = true then (nI (rmC mGoF (fun s i => decide (s.2 4 i = p)) σ (mBn σ) (mBn σ)), mForgF σ p.toNatClampNeg) else (-1, σ)
def spX1_forget : mC := mG 1 false (fun σ _ => mOk σ) (fun σ xs => mForgetF σ (mArg xs 0))
set_option maxHeartbeats 8000000 in
set_option maxRecDepth 100000 in
theorem ctX1_forget : mCt hX1 1 20 vwC yX1_forget cX1_forget 4 (some .int) 2 spX1_forget := by
  refine mMeet (k := (kX1 [(70, spX1_isPerson), (76, spX1_goes)])) (bl := 0) (own := RX1) (C := RX1) (T := TX1) (ty0 := tyX1) (by decide +kernel) rfl (tbX1 _) (mCal_cons (okX1_70 (by decide)) (mCal_cons (okX1_76 (by decide)) mCal_nil)) (Or.inl ⟨rfl, rfl, rfl⟩) (by decide) ?_
  intro σ xs hlen hpre X hX
  obtain ⟨a0, rfl⟩ := mx_l1 xs hlen
  change X (0, [some (.ref 0), some (.int a0), none, none], [], σ)
  have hpre : mOk σ := hpre
  by_cases hp : isInF a0 0 7 = true
  · obtain ⟨p, hp1, rfl, hp2, hp3⟩ := mPers_ix hp
    obtain ⟨hb, hn⟩ := hpre.2.1
    have loop2 := mFor (X := X) 12 (fun x => (58, [some (.ref 0), some (.int (nI p)), some (.int (nI (rmC mGoF (fun s i => decide (s.2 4 i = nI p)) σ (mBn σ) (mBn σ)))), some (.int (nI x))], [], ((rmF mGoF (fun s i => decide (s.2 4 i = nI p)) σ (mBn σ) (mBn σ)).1, clF (up2 (rmF mGoF (fun s i => decide (s.2 4 i = nI p)) σ (mBn σ) (mBn σ)).2 7 p 0) 8 9 (12 * p) (fun _ => true) x))) ?_ ?_ 0 (Nat.zero_le _)
    · have loop1 := mFor (X := X) (mBn σ) (fun k => (18, [some (.ref 0), some (.int (nI p)), some (.int (nI (rmC mGoF (fun s i => decide (s.2 4 i = nI p)) σ (mBn σ) k))), some (.int (nI (mBn σ - k) - 1))], [], rmF mGoF (fun s i => decide (s.2 4 i = nI p)) σ (mBn σ) k)) ?_ ?_ 0 (Nat.zero_le _)
      · refine mWalk hX [18] 40 ?_
        simp only [mRun, mCut, mAt, mSet, mArgs, mFind, mLdI, mLdA, mStI, mInc, mBin, mDiv, mJ1, mJ2, mN1, mN2, mGet, mPut, mLdE, mStE, mLdR, mKon, mDup, mDup2, mAft, mCaV, mCaS, mRetI, mRetV, fX1_7, fX1_13, fX1_16, fX1_19, fX1_22, fX1_26, fX1_29, fX1_32, fX1_35, fX1_38, fX1_41, fX1_44, fX1_47, fX1_50, fX1_53, fX1_60, fX1_63, fX1_73, fX1_105, fX1_108, oX1_94, cX1_c, nX1_0, vX1_0, nX1_1, vX1_1, nX1_2, vX1_2, nX1_3, vX1_3, nX1_4, vX1_4, nX1_5, vX1_5, nX1_6, vX1_6, nX1_7, vX1_7, vX1_8, vX1_9, vX1_10, vX1_11, vX1_12, vX1_13, vX1_14, vX1_15, vX1_16, vX1_17, nX1_18, vX1_18, nX1_19, vX1_19, lX1_1, aX1_1, lX1_2, aX1_2, lX1_3, aX1_3, lX1_4, aX1_4, lX1_5, aX1_5, lX1_6, aX1_6, lX1_7, aX1_7, lX1_8, aX1_8, lX1_9, aX1_9, lX1_10, aX1_10, gX1_n, vX1_forget_0, vX1_forget_1, vX1_forget_4, vX1_forget_7, vX1_forget_8, vX1_forget_9, vX1_forget_10, vX1_forget_11, vX1_forget_12, vX1_forget_15, vX1_forget_16, vX1_forget_17, vX1_forget_18, vX1_forget_19, vX1_forget_22, vX1_forget_23, vX1_forget_26, vX1_forget_27, vX1_forget_28, vX1_forget_29, vX1_forget_32, vX1_forget_35, vX1_forget_36, vX1_forget_37, vX1_forget_40, vX1_forget_43, vX1_forget_46, vX1_forget_49, vX1_forget_50, vX1_forget_53, vX1_forget_54, vX1_forget_55, vX1_forget_56, vX1_forget_57, vX1_forget_58, vX1_forget_59, vX1_forget_61, vX1_forget_64, vX1_forget_65, vX1_forget_68, vX1_forget_70, vX1_forget_71, vX1_forget_72, vX1_forget_73, vX1_forget_74, vX1_forget_75, vX1_forget_76, vX1_forget_77, vX1_forget_80, vX1_forget_82, vX1_forget_83, vX1_forget_84, vX1_forget_85, vX1_forget_86, vX1_forget_87, vX1_forget_88, vX1_forget_91, vX1_forget_94, vX1_forget_95, Nat.reduceAdd, Nat.reduceSub, Nat.reduceBEq, Nat.reduceEqDiff, Nat.reduceLeDiff, Int.reduceAdd, Int.reduceSub, Int.reduceNeg, Int.reduceToNat, Int.reduceLE, Int.reduceLT, Int.zero_add, Nat.zero_add, List.toList_toArray, Option.map_some, Bool.or_false, Bool.or_true, Bool.false_or, Bool.true_or, Bool.or_self, cond_false, cond_true, List.length_cons, List.length_nil, true_and, and_true, forall_eq, forall_eq_apply_imp_iff, and_imp, ite_true, ite_false, reduceIte, true_or, or_true, false_or, or_false, false_and, and_false, eq_self, List.drop_succ_cons, List.drop_zero, List.zip_cons_cons, List.zip_nil_right, List.all_cons, List.all_nil, false_implies, true_implies, Bool.true_eq_false, Bool.false_eq_true, not_false_eq_true, not_true_eq_false, mx_u, mx_u2, mx_b0, mx_b1, Bool.not_eq_false, Bool.not_eq_true, Nat.le_refl, ne_eq, mG, mF, mGv, Int32.add_sub_cancel, spX1_forget, spX1_isPerson, spX1_goes, mArg, hp, hb]
        exact loop1
      · refine mWalk hX [18, 58] 40 ?_
        have c1 := (dn_neg hn (Nat.le_refl (mBn σ))).mpr rfl
        simp only [mRun, mCut, mAt, mSet, mArgs, mFind, mLdI, mLdA, mStI, mInc, mBin, mDiv, mJ1, mJ2, mN1, mN2, mGet, mPut, mLdE, mStE, mLdR, mKon, mDup, mDup2, mAft, mCaV, mCaS, mRetI, mRetV, fX1_7, fX1_13, fX1_16, fX1_19, fX1_22, fX1_26, fX1_29, fX1_32, fX1_35, fX1_38, fX1_41, fX1_44, fX1_47, fX1_50, fX1_53, fX1_60, fX1_63, fX1_73, fX1_105, fX1_108, oX1_94, cX1_c, nX1_0, vX1_0, nX1_1, vX1_1, nX1_2, vX1_2, nX1_3, vX1_3, nX1_4, vX1_4, nX1_5, vX1_5, nX1_6, vX1_6, nX1_7, vX1_7, vX1_8, vX1_9, vX1_10, vX1_11, vX1_12, vX1_13, vX1_14, vX1_15, vX1_16, vX1_17, nX1_18, vX1_18, nX1_19, vX1_19, lX1_1, aX1_1, lX1_2, aX1_2, lX1_3, aX1_3, lX1_4, aX1_4, lX1_5, aX1_5, lX1_6, aX1_6, lX1_7, aX1_7, lX1_8, aX1_8, lX1_9, aX1_9, lX1_10, aX1_10, gX1_n, vX1_forget_0, vX1_forget_1, vX1_forget_4, vX1_forget_7, vX1_forget_8, vX1_forget_9, vX1_forget_10, vX1_forget_11, vX1_forget_12, vX1_forget_15, vX1_forget_16, vX1_forget_17, vX1_forget_18, vX1_forget_19, vX1_forget_22, vX1_forget_23, vX1_forget_26, vX1_forget_27, vX1_forget_28, vX1_forget_29, vX1_forget_32, vX1_forget_35, vX1_forget_36, vX1_forget_37, vX1_forget_40, vX1_forget_43, vX1_forget_46, vX1_forget_49, vX1_forget_50, vX1_forget_53, vX1_forget_54, vX1_forget_55, vX1_forget_56, vX1_forget_57, vX1_forget_58, vX1_forget_59, vX1_forget_61, vX1_forget_64, vX1_forget_65, vX1_forget_68, vX1_forget_70, vX1_forget_71, vX1_forget_72, vX1_forget_73, vX1_forget_74, vX1_forget_75, vX1_forget_76, vX1_forget_77, vX1_forget_80, vX1_forget_82, vX1_forget_83, vX1_forget_84, vX1_forget_85, vX1_forget_86, vX1_forget_87, vX1_forget_88, vX1_forget_91, vX1_forget_94, vX1_forget_95, Nat.reduceAdd, Nat.reduceSub, Nat.reduceBEq, Nat.reduceEqDiff, Nat.reduceLeDiff, Int.reduceAdd, Int.reduceSub, Int.reduceNeg, Int.reduceToNat, Int.reduceLE, Int.reduceLT, Int.zero_add, Nat.zero_add, List.toList_toArray, Option.map_some, Bool.or_false, Bool.or_true, Bool.false_or, Bool.true_or, Bool.or_self, cond_false, cond_true, List.length_cons, List.length_nil, true_and, and_true, forall_eq, forall_eq_apply_imp_iff, and_imp, ite_true, ite_false, reduceIte, true_or, or_true, false_or, or_false, false_and, and_false, eq_self, List.drop_succ_cons, List.drop_zero, List.zip_cons_cons, List.zip_nil_right, List.all_cons, List.all_nil, false_implies, true_implies, Bool.true_eq_false, Bool.false_eq_true, not_false_eq_true, not_true_eq_false, mx_u, mx_u2, mx_b0, mx_b1, Bool.not_eq_false, Bool.not_eq_true, Nat.le_refl, ne_eq, mG, mF, mGv, Int32.add_sub_cancel, spX1_forget, spX1_isPerson, spX1_goes, mArg, c1, hp2, hp3]
        exact loop2
      · intro k hk ih
        obtain ⟨r1, r2, r3, r4, r5⟩ := rmF_ok hpre (fun s i => decide (s.2 4 i = nI p)) k (by omega)
        have c1 : ¬ nI (mBn σ - 1 - k) < 0 := nI_pos (by omega)
        obtain ⟨v1, e1⟩ := nI_i (j := mBn σ - 1 - k) (n := 60) (by omega) (by omega)
        have hpr : mOk (rmF mGoF (fun s i => decide (s.2 4 i = nI p)) σ (mBn σ) k) ∧ ∃ i, i < mBn (rmF mGoF (fun s i => decide (s.2 4 i = nI p)) σ (mBn σ) k) ∧ nI (mBn σ - 1 - k) = nI i := ⟨r1, mBn σ - 1 - k, by omega, rfl⟩
        refine mWalk hX [18] 40 ?_
        rw [dn_at hk]
        simp only [mRun, mCut, mAt, mSet, mArgs, mFind, mLdI, mLdA, mStI, mInc, mBin, mDiv, mJ1, mJ2, mN1, mN2, mGet, mPut, mLdE, mStE, mLdR, mKon, mDup, mDup2, mAft, mCaV, mCaS, mRetI, mRetV, fX1_7, fX1_13, fX1_16, fX1_19, fX1_22, fX1_26, fX1_29, fX1_32, fX1_35, fX1_38, fX1_41, fX1_44, fX1_47, fX1_50, fX1_53, fX1_60, fX1_63, fX1_73, fX1_105, fX1_108, oX1_94, cX1_c, nX1_0, vX1_0, nX1_1, vX1_1, nX1_2, vX1_2, nX1_3, vX1_3, nX1_4, vX1_4, nX1_5, vX1_5, nX1_6, vX1_6, nX1_7, vX1_7, vX1_8, vX1_9, vX1_10, vX1_11, vX1_12, vX1_13, vX1_14, vX1_15, vX1_16, vX1_17, nX1_18, vX1_18, nX1_19, vX1_19, lX1_1, aX1_1, lX1_2, aX1_2, lX1_3, aX1_3, lX1_4, aX1_4, lX1_5, aX1_5, lX1_6, aX1_6, lX1_7, aX1_7, lX1_8, aX1_8, lX1_9, aX1_9, lX1_10, aX1_10, gX1_n, vX1_forget_0, vX1_forget_1, vX1_forget_4, vX1_forget_7, vX1_forget_8, vX1_forget_9, vX1_forget_10, vX1_forget_11, vX1_forget_12, vX1_forget_15, vX1_forget_16, vX1_forget_17, vX1_forget_18, vX1_forget_19, vX1_forget_22, vX1_forget_23, vX1_forget_26, vX1_forget_27, vX1_forget_28, vX1_forget_29, vX1_forget_32, vX1_forget_35, vX1_forget_36, vX1_forget_37, vX1_forget_40, vX1_forget_43, vX1_forget_46, vX1_forget_49, vX1_forget_50, vX1_forget_53, vX1_forget_54, vX1_forget_55, vX1_forget_56, vX1_forget_57, vX1_forget_58, vX1_forget_59, vX1_forget_61, vX1_forget_64, vX1_forget_65, vX1_forget_68, vX1_forget_70, vX1_forget_71, vX1_forget_72, vX1_forget_73, vX1_forget_74, vX1_forget_75, vX1_forget_76, vX1_forget_77, vX1_forget_80, vX1_forget_82, vX1_forget_83, vX1_forget_84, vX1_forget_85, vX1_forget_86, vX1_forget_87, vX1_forget_88, vX1_forget_91, vX1_forget_94, vX1_forget_95, Nat.reduceAdd, Nat.reduceSub, Nat.reduceBEq, Nat.reduceEqDiff, Nat.reduceLeDiff, Int.reduceAdd, Int.reduceSub, Int.reduceNeg, Int.reduceToNat, Int.reduceLE, Int.reduceLT, Int.zero_add, Nat.zero_add, List.toList_toArray, Option.map_some, Bool.or_false, Bool.or_true, Bool.false_or, Bool.true_or, Bool.or_self, cond_false, cond_true, List.length_cons, List.length_nil, true_and, and_true, forall_eq, forall_eq_apply_imp_iff, and_imp, ite_true, ite_false, reduceIte, true_or, or_true, false_or, or_false, false_and, and_false, eq_self, List.drop_succ_cons, List.drop_zero, List.zip_cons_cons, List.zip_nil_right, List.all_cons, List.all_nil, false_implies, true_implies, Bool.true_eq_false, Bool.false_eq_true, not_false_eq_true, not_true_eq_false, mx_u, mx_u2, mx_b0, mx_b1, Bool.not_eq_false, Bool.not_eq_true, Nat.le_refl, ne_eq, mG, mF, mGv, Int32.add_sub_cancel, spX1_forget, spX1_isPerson, spX1_goes, mArg, c1, v1, e1, hpr, nI_1, dn_s]
        refine ⟨fun h1 => ?_, fun h1 => ?_⟩
        · simpa [rmF, rmC, h1] using ih
        · simpa [rmF, rmC, h1] using ih
    · refine mWalk hX [58] 40 ?_
      have c1 : (12 : Int32) ≤ nI 12 := by decide +kernel
      simp only [mRun, mCut, mAt, mSet, mArgs, mFind, mLdI, mLdA, mStI, mInc, mBin, mDiv, mJ1, mJ2, mN1, mN2, mGet, mPut, mLdE, mStE, mLdR, mKon, mDup, mDup2, mAft, mCaV, mCaS, mRetI, mRetV, fX1_7, fX1_13, fX1_16, fX1_19, fX1_22, fX1_26, fX1_29, fX1_32, fX1_35, fX1_38, fX1_41, fX1_44, fX1_47, fX1_50, fX1_53, fX1_60, fX1_63, fX1_73, fX1_105, fX1_108, oX1_94, cX1_c, nX1_0, vX1_0, nX1_1, vX1_1, nX1_2, vX1_2, nX1_3, vX1_3, nX1_4, vX1_4, nX1_5, vX1_5, nX1_6, vX1_6, nX1_7, vX1_7, vX1_8, vX1_9, vX1_10, vX1_11, vX1_12, vX1_13, vX1_14, vX1_15, vX1_16, vX1_17, nX1_18, vX1_18, nX1_19, vX1_19, lX1_1, aX1_1, lX1_2, aX1_2, lX1_3, aX1_3, lX1_4, aX1_4, lX1_5, aX1_5, lX1_6, aX1_6, lX1_7, aX1_7, lX1_8, aX1_8, lX1_9, aX1_9, lX1_10, aX1_10, gX1_n, vX1_forget_0, vX1_forget_1, vX1_forget_4, vX1_forget_7, vX1_forget_8, vX1_forget_9, vX1_forget_10, vX1_forget_11, vX1_forget_12, vX1_forget_15, vX1_forget_16, vX1_forget_17, vX1_forget_18, vX1_forget_19, vX1_forget_22, vX1_forget_23, vX1_forget_26, vX1_forget_27, vX1_forget_28, vX1_forget_29, vX1_forget_32, vX1_forget_35, vX1_forget_36, vX1_forget_37, vX1_forget_40, vX1_forget_43, vX1_forget_46, vX1_forget_49, vX1_forget_50, vX1_forget_53, vX1_forget_54, vX1_forget_55, vX1_forget_56, vX1_forget_57, vX1_forget_58, vX1_forget_59, vX1_forget_61, vX1_forget_64, vX1_forget_65, vX1_forget_68, vX1_forget_70, vX1_forget_71, vX1_forget_72, vX1_forget_73, vX1_forget_74, vX1_forget_75, vX1_forget_76, vX1_forget_77, vX1_forget_80, vX1_forget_82, vX1_forget_83, vX1_forget_84, vX1_forget_85, vX1_forget_86, vX1_forget_87, vX1_forget_88, vX1_forget_91, vX1_forget_94, vX1_forget_95, Nat.reduceAdd, Nat.reduceSub, Nat.reduceBEq, Nat.reduceEqDiff, Nat.reduceLeDiff, Int.reduceAdd, Int.reduceSub, Int.reduceNeg, Int.reduceToNat, Int.reduceLE, Int.reduceLT, Int.zero_add, Nat.zero_add, List.toList_toArray, Option.map_some, Bool.or_false, Bool.or_true, Bool.false_or, Bool.true_or, Bool.or_self, cond_false, cond_true, List.length_cons, List.length_nil, true_and, and_true, forall_eq, forall_eq_apply_imp_iff, and_imp, ite_true, ite_false, reduceIte, true_or, or_true, false_or, or_false, false_and, and_false, eq_self, List.drop_succ_cons, List.drop_zero, List.zip_cons_cons, List.zip_nil_right, List.all_cons, List.all_nil, false_implies, true_implies, Bool.true_eq_false, Bool.false_eq_true, not_false_eq_true, not_true_eq_false, mx_u, mx_u2, mx_b0, mx_b1, Bool.not_eq_false, Bool.not_eq_true, Nat.le_refl, ne_eq, mG, mF, mGv, Int32.add_sub_cancel, spX1_forget, spX1_isPerson, spX1_goes, mArg, c1, mForgetF, mForgF, hp, hp3]
      rfl
    · intro x hx ih
      have c1 : ¬ (12 : Int32) ≤ nI x := nI_ge (b := 12) hx (by omega)
      obtain ⟨q1, q2, q3⟩ := nI_row hp1 hx
      refine mWalk hX [58] 40 ?_
      simp only [mRun, mCut, mAt, mSet, mArgs, mFind, mLdI, mLdA, mStI, mInc, mBin, mDiv, mJ1, mJ2, mN1, mN2, mGet, mPut, mLdE, mStE, mLdR, mKon, mDup, mDup2, mAft, mCaV, mCaS, mRetI, mRetV, fX1_7, fX1_13, fX1_16, fX1_19, fX1_22, fX1_26, fX1_29, fX1_32, fX1_35, fX1_38, fX1_41, fX1_44, fX1_47, fX1_50, fX1_53, fX1_60, fX1_63, fX1_73, fX1_105, fX1_108, oX1_94, cX1_c, nX1_0, vX1_0, nX1_1, vX1_1, nX1_2, vX1_2, nX1_3, vX1_3, nX1_4, vX1_4, nX1_5, vX1_5, nX1_6, vX1_6, nX1_7, vX1_7, vX1_8, vX1_9, vX1_10, vX1_11, vX1_12, vX1_13, vX1_14, vX1_15, vX1_16, vX1_17, nX1_18, vX1_18, nX1_19, vX1_19, lX1_1, aX1_1, lX1_2, aX1_2, lX1_3, aX1_3, lX1_4, aX1_4, lX1_5, aX1_5, lX1_6, aX1_6, lX1_7, aX1_7, lX1_8, aX1_8, lX1_9, aX1_9, lX1_10, aX1_10, gX1_n, vX1_forget_0, vX1_forget_1, vX1_forget_4, vX1_forget_7, vX1_forget_8, vX1_forget_9, vX1_forget_10, vX1_forget_11, vX1_forget_12, vX1_forget_15, vX1_forget_16, vX1_forget_17, vX1_forget_18, vX1_forget_19, vX1_forget_22, vX1_forget_23, vX1_forget_26, vX1_forget_27, vX1_forget_28, vX1_forget_29, vX1_forget_32, vX1_forget_35, vX1_forget_36, vX1_forget_37, vX1_forget_40, vX1_forget_43, vX1_forget_46, vX1_forget_49, vX1_forget_50, vX1_forget_53, vX1_forget_54, vX1_forget_55, vX1_forget_56, vX1_forget_57, vX1_forget_58, vX1_forget_59, vX1_forget_61, vX1_forget_64, vX1_forget_65, vX1_forget_68, vX1_forget_70, vX1_forget_71, vX1_forget_72, vX1_forget_73, vX1_forget_74, vX1_forget_75, vX1_forget_76, vX1_forget_77, vX1_forget_80, vX1_forget_82, vX1_forget_83, vX1_forget_84, vX1_forget_85, vX1_forget_86, vX1_forget_87, vX1_forget_88, vX1_forget_91, vX1_forget_94, vX1_forget_95, Nat.reduceAdd, Nat.reduceSub, Nat.reduceBEq, Nat.reduceEqDiff, Nat.reduceLeDiff, Int.reduceAdd, Int.reduceSub, Int.reduceNeg, Int.reduceToNat, Int.reduceLE, Int.reduceLT, Int.zero_add, Nat.zero_add, List.toList_toArray, Option.map_some, Bool.or_false, Bool.or_true, Bool.false_or, Bool.true_or, Bool.or_self, cond_false, cond_true, List.length_cons, List.length_nil, true_and, and_true, forall_eq, forall_eq_apply_imp_iff, and_imp, ite_true, ite_false, reduceIte, true_or, or_true, false_or, or_false, false_and, and_false, eq_self, List.drop_succ_cons, List.drop_zero, List.zip_cons_cons, List.zip_nil_right, List.all_cons, List.all_nil, false_implies, true_implies, Bool.true_eq_false, Bool.false_eq_true, not_false_eq_true, not_true_eq_false, mx_u, mx_u2, mx_b0, mx_b1, Bool.not_eq_false, Bool.not_eq_true, Nat.le_refl, ne_eq, mG, mF, mGv, Int32.add_sub_cancel, spX1_forget, spX1_isPerson, spX1_goes, mArg, c1, q1, q2, q3, nI_1]
      simpa [clF] using ih
  · refine mWalk hX [] 40 ?_
    simp only [mRun, mCut, mAt, mSet, mArgs, mFind, mLdI, mLdA, mStI, mInc, mBin, mDiv, mJ1, mJ2, mN1, mN2, mGet, mPut, mLdE, mStE, mLdR, mKon, mDup, mDup2, mAft, mCaV, mCaS, mRetI, mRetV, fX1_7, fX1_13, fX1_16, fX1_19, fX1_22, fX1_26, fX1_29, fX1_32, fX1_35, fX1_38, fX1_41, fX1_44, fX1_47, fX1_50, fX1_53, fX1_60, fX1_63, fX1_73, fX1_105, fX1_108, oX1_94, cX1_c, nX1_0, vX1_0, nX1_1, vX1_1, nX1_2, vX1_2, nX1_3, vX1_3, nX1_4, vX1_4, nX1_5, vX1_5, nX1_6, vX1_6, nX1_7, vX1_7, vX1_8, vX1_9, vX1_10, vX1_11, vX1_12, vX1_13, vX1_14, vX1_15, vX1_16, vX1_17, nX1_18, vX1_18, nX1_19, vX1_19, lX1_1, aX1_1, lX1_2, aX1_2, lX1_3, aX1_3, lX1_4, aX1_4, lX1_5, aX1_5, lX1_6, aX1_6, lX1_7, aX1_7, lX1_8, aX1_8, lX1_9, aX1_9, lX1_10, aX1_10, gX1_n, vX1_forget_0, vX1_forget_1, vX1_forget_4, vX1_forget_7, vX1_forget_8, vX1_forget_9, vX1_forget_10, vX1_forget_11, vX1_forget_12, vX1_forget_15, vX1_forget_16, vX1_forget_17, vX1_forget_18, vX1_forget_19, vX1_forget_22, vX1_forget_23, vX1_forget_26, vX1_forget_27, vX1_forget_28, vX1_forget_29, vX1_forget_32, vX1_forget_35, vX1_forget_36, vX1_forget_37, vX1_forget_40, vX1_forget_43, vX1_forget_46, vX1_forget_49, vX1_forget_50, vX1_forget_53, vX1_forget_54, vX1_forget_55, vX1_forget_56, vX1_forget_57, vX1_forget_58, vX1_forget_59, vX1_forget_61, vX1_forget_64, vX1_forget_65, vX1_forget_68, vX1_forget_70, vX1_forget_71, vX1_forget_72, vX1_forget_73, vX1_forget_74, vX1_forget_75, vX1_forget_76, vX1_forget_77, vX1_forget_80, vX1_forget_82, vX1_forget_83, vX1_forget_84, vX1_forget_85, vX1_forget_86, vX1_forget_87, vX1_forget_88, vX1_forget_91, vX1_forget_94, vX1_forget_95, Nat.reduceAdd, Nat.reduceSub, Nat.reduceBEq, Nat.reduceEqDiff, Nat.reduceLeDiff, Int.reduceAdd, Int.reduceSub, Int.reduceNeg, Int.reduceToNat, Int.reduceLE, Int.reduceLT, Int.zero_add, Nat.zero_add, List.toList_toArray, Option.map_some, Bool.or_false, Bool.or_true, Bool.false_or, Bool.true_or, Bool.or_self, cond_false, cond_true, List.length_cons, List.length_nil, true_and, and_true, forall_eq, forall_eq_apply_imp_iff, and_imp, ite_true, ite_false, reduceIte, true_or, or_true, false_or, or_false, false_and, and_false, eq_self, List.drop_succ_cons, List.drop_zero, List.zip_cons_cons, List.zip_nil_right, List.all_cons, List.all_nil, false_implies, true_implies, Bool.true_eq_false, Bool.false_eq_true, not_false_eq_true, not_true_eq_false, mx_u, mx_u2, mx_b0, mx_b1, Bool.not_eq_false, Bool.not_eq_true, Nat.le_refl, ne_eq, mG, mF, mGv, Int32.add_sub_cancel, spX1_forget, spX1_isPerson, spX1_goes, mArg, hp]
    simp [mForgetF, hp]
