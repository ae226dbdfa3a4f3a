def spX1_isIn : mC := mF 3 true (fun _ _ => True) (fun _ xs => b32 (isInF (mArg xs 0) (mArg xs 1) (mArg xs 2)))
set_option maxHeartbeats 8000000 in
set_option maxRecDepth 100000 in
theorem ctX1_isIn : mCt hX1 1 20 vwC yX1_isIn cX1_isIn 3 (some .boolean) 0 spX1_isIn := by
  refine mMeet (k := (kX1 [])) (bl := 1) (own := RX1) (C := RX1) (T := TX1) (ty0 := tyX1) (by decide +kernel) rfl (tbX1 _) mCal_nil (Or.inr (Or.inl ⟨rfl, rfl, rfl⟩)) (by decide) ?_
  intro σ xs hlen hpre X hX
  obtain ⟨a0, a1, a2, rfl⟩ := mx_l3 xs hlen
  change X (0, [some (.int a0), some (.int a1), some (.int a2)], [], σ)
  refine mWalk hX [] 30 ?_
  simp only [mRun, mCut, mAt, mSet, mArgs, mFind, mLdI, mLdA, mStI, mInc, mBin, mDiv, mJ1, mJ2, mN1, mN2, mGet, mPut, mLdE, mStE, mLdR, mKon, mDup, mDup2, mAft, mCaV, mCaS, mRetI, mRetV, fX1_7, fX1_13, fX1_16, fX1_19, fX1_22, fX1_26, fX1_29, fX1_32, fX1_35, fX1_38, fX1_41, fX1_44, fX1_47, fX1_50, fX1_53, fX1_60, fX1_63, fX1_73, fX1_105, fX1_108, oX1_94, cX1_c, nX1_0, vX1_0, nX1_1, vX1_1, nX1_2, vX1_2, nX1_3, vX1_3, nX1_4, vX1_4, nX1_5, vX1_5, nX1_6, vX1_6, nX1_7, vX1_7, vX1_8, vX1_9, vX1_10, vX1_11, vX1_12, vX1_13, vX1_14, vX1_15, vX1_16, vX1_17, nX1_18, vX1_18, nX1_19, vX1_19, lX1_1, aX1_1, lX1_2, aX1_2, lX1_3, aX1_3, lX1_4, aX1_4, lX1_5, aX1_5, lX1_6, aX1_6, lX1_7, aX1_7, lX1_8, aX1_8, lX1_9, aX1_9, lX1_10, aX1_10, gX1_n, vX1_isIn_0, vX1_isIn_1, vX1_isIn_2, vX1_isIn_5, vX1_isIn_6, vX1_isIn_7, vX1_isIn_10, vX1_isIn_11, vX1_isIn_14, vX1_isIn_15, Nat.reduceAdd, Nat.reduceSub, Nat.reduceBEq, Nat.reduceEqDiff, Nat.reduceLeDiff, Int.reduceAdd, Int.reduceSub, Int.reduceNeg, Int.reduceToNat, Int.reduceLE, Int.reduceLT, Int.zero_add, Nat.zero_add, List.toList_toArray, Option.map_some, Bool.or_false, Bool.or_true, Bool.false_or, Bool.true_or, Bool.or_self, cond_false, cond_true, List.length_cons, List.length_nil, true_and, and_true, forall_eq, forall_eq_apply_imp_iff, and_imp, ite_true, ite_false, reduceIte, true_or, or_true, false_or, or_false, false_and, and_false, eq_self, List.drop_succ_cons, List.drop_zero, List.zip_cons_cons, List.zip_nil_right, List.all_cons, List.all_nil, false_implies, true_implies, Bool.true_eq_false, Bool.false_eq_true, not_false_eq_true, not_true_eq_false, mx_u, mx_u2, mx_b0, mx_b1, Bool.not_eq_false, Bool.not_eq_true, Nat.le_refl, ne_eq, mG, mF, mGv, Int32.add_sub_cancel, spX1_isIn, mArg]
  refine ⟨fun h => ?_, fun h => ⟨fun h2 => ?_, fun h2 => ?_⟩⟩
  · have := Int32.not_le.mpr h
    simp [isInF, b32, this]
  · have := Int32.not_le.mpr h2
    simp [isInF, b32, this]
  · have h3 := Int32.not_lt.mp h
    have h4 := Int32.not_lt.mp h2
    simp [isInF, b32, h3, h4]
set_option maxRecDepth 100000 in
theorem okX1_56 {d : Nat} (hd : 0 + 1 ≤ d) : mOK hX1 1 20 vwC RX1 RX1 d 56 spX1_isIn := ⟨yX1_isIn, cX1_isIn, 3, (some .boolean), 0, ctX1_isIn, hd, by decide, by decide +kernel, by decide +kernel, by decide +kernel, by decide +kernel, fun _ => by decide +kernel, fun h => by cases h⟩
def spX1_isThing : mC := mF 1 false (fun _ _ => True) (fun σ xs => b32 (isInF (mArg xs 0) 0 (σ.1 0 - 1)))
set_option maxHeartbeats 8000000 in
set_option maxRecDepth 100000 in
theorem ctX1_isThing : mCt hX1 1 20 vwC yX1_isThing cX1_isThing 2 (some .boolean) 1 spX1_isThing := by
  refine mMeet (k := (kX1 [(56, spX1_isIn)])) (bl := 1) (own := RX1) (C := RX1) (T := TX1) (ty0 := tyX1) (by decide +kernel) rfl (tbX1 _) (mCal_cons (okX1_56 (by decide)) mCal_nil) (Or.inr (Or.inl ⟨rfl, rfl, rfl⟩)) (by decide) ?_
  intro σ xs hlen hpre X hX
  obtain ⟨a0, rfl⟩ := mx_l1 xs hlen
  change X (0, [some (.ref 0), some (.int a0)], [], σ)
  refine mWalk hX [] 30 ?_
  simp only [mRun, mCut, mAt, mSet, mArgs, mFind, mLdI, mLdA, mStI, mInc, mBin, mDiv, mJ1, mJ2, mN1, mN2, mGet, mPut, mLdE, mStE, mLdR, mKon, mDup, mDup2, mAft, mCaV, mCaS, mRetI, mRetV, fX1_7, fX1_13, fX1_16, fX1_19, fX1_22, fX1_26, fX1_29, fX1_32, fX1_35, fX1_38, fX1_41, fX1_44, fX1_47, fX1_50, fX1_53, fX1_60, fX1_63, fX1_73, fX1_105, fX1_108, oX1_94, cX1_c, nX1_0, vX1_0, nX1_1, vX1_1, nX1_2, vX1_2, nX1_3, vX1_3, nX1_4, vX1_4, nX1_5, vX1_5, nX1_6, vX1_6, nX1_7, vX1_7, vX1_8, vX1_9, vX1_10, vX1_11, vX1_12, vX1_13, vX1_14, vX1_15, vX1_16, vX1_17, nX1_18, vX1_18, nX1_19, vX1_19, lX1_1, aX1_1, lX1_2, aX1_2, lX1_3, aX1_3, lX1_4, aX1_4, lX1_5, aX1_5, lX1_6, aX1_6, lX1_7, aX1_7, lX1_8, aX1_8, lX1_9, aX1_9, lX1_10, aX1_10, gX1_n, vX1_isThing_0, vX1_isThing_1, vX1_isThing_2, vX1_isThing_3, vX1_isThing_6, vX1_isThing_7, vX1_isThing_8, vX1_isThing_11, Nat.reduceAdd, Nat.reduceSub, Nat.reduceBEq, Nat.reduceEqDiff, Nat.reduceLeDiff, Int.reduceAdd, Int.reduceSub, Int.reduceNeg, Int.reduceToNat, Int.reduceLE, Int.reduceLT, Int.zero_add, Nat.zero_add, List.toList_toArray, Option.map_some, Bool.or_false, Bool.or_true, Bool.false_or, Bool.true_or, Bool.or_self, cond_false, cond_true, List.length_cons, List.length_nil, true_and, and_true, forall_eq, forall_eq_apply_imp_iff, and_imp, ite_true, ite_false, reduceIte, true_or, or_true, false_or, or_false, false_and, and_false, eq_self, List.drop_succ_cons, List.drop_zero, List.zip_cons_cons, List.zip_nil_right, List.all_cons, List.all_nil, false_implies, true_implies, Bool.true_eq_false, Bool.false_eq_true, not_false_eq_true, not_true_eq_false, mx_u, mx_u2, mx_b0, mx_b1, Bool.not_eq_false, Bool.not_eq_true, Nat.le_refl, ne_eq, mG, mF, mGv, Int32.add_sub_cancel, spX1_isThing, spX1_isIn, mArg]
  cases isInF a0 0 (σ.1 0 - 1) <;> simp
set_option maxRecDepth 100000 in
theorem okX1_66 {d : Nat} (hd : 1 + 1 ≤ d) : mOK hX1 1 20 vwC RX1 RX1 d 66 spX1_isThing := ⟨yX1_isThing, cX1_isThing, 2, (some .boolean), 1, ctX1_isThing, hd, by decide, by decide +kernel, by decide +kernel, by decide +kernel, by decide +kernel, fun h => (by cases h), fun _ => ⟨by decide +kernel, by decide +kernel⟩⟩
def spX1_isPerson : mC := mF 1 true (fun _ _ => True) (fun _ xs => b32 (isInF (mArg xs 0) 0 7))
set_option maxHeartbeats 8000000 in
set_option maxRecDepth 100000 in
theorem ctX1_isPerson : mCt hX1 1 20 vwC yX1_isPerson cX1_isPerson 1 (some .boolean) 1 spX1_isPerson := by
  refine mMeet (k := (kX1 [(56, spX1_isIn)])) (bl := 1) (own := RX1) (C := RX1) (T := TX1) (ty0 := tyX1) (by decide +kernel) rfl (tbX1 _) (mCal_cons (okX1_56 (by decide)) mCal_nil) (Or.inr (Or.inl ⟨rfl, rfl, rfl⟩)) (by decide) ?_
  intro σ xs hlen hpre X hX
  obtain ⟨a0, rfl⟩ := mx_l1 xs hlen
  change X (0, [some (.int a0)], [], σ)
  refine mWalk hX [] 30 ?_
  simp only [mRun, mCut, mAt, mSet, mArgs, mFind, mLdI, mLdA, mStI, mInc, mBin, mDiv, mJ1, mJ2, mN1, mN2, mGet, mPut, mLdE, mStE, mLdR, mKon, mDup, mDup2, mAft, mCaV, mCaS, mRetI, mRetV, fX1_7, fX1_13, fX1_16, fX1_19, fX1_22, fX1_26, fX1_29, fX1_32, fX1_35, fX1_38, fX1_41, fX1_44, fX1_47, fX1_50, fX1_53, fX1_60, fX1_63, fX1_73, fX1_105, fX1_108, oX1_94, cX1_c, nX1_0, vX1_0, nX1_1, vX1_1, nX1_2, vX1_2, nX1_3, vX1_3, nX1_4, vX1_4, nX1_5, vX1_5, nX1_6, vX1_6, nX1_7, vX1_7, vX1_8, vX1_9, vX1_10, vX1_11, vX1_12, vX1_13, vX1_14, vX1_15, vX1_16, vX1_17, nX1_18, vX1_18, nX1_19, vX1_19, lX1_1, aX1_1, lX1_2, aX1_2, lX1_3, aX1_3, lX1_4, aX1_4, lX1_5, aX1_5, lX1_6, aX1_6, lX1_7, aX1_7, lX1_8, aX1_8, lX1_9, aX1_9, lX1_10, aX1_10, gX1_n, vX1_isPerson_0, vX1_isPerson_1, vX1_isPerson_2, vX1_isPerson_4, vX1_isPerson_7, Nat.reduceAdd, Nat.reduceSub, Nat.reduceBEq, Nat.reduceEqDiff, Nat.reduceLeDiff, Int.reduceAdd, Int.reduceSub, Int.reduceNeg, Int.reduceToNat, Int.reduceLE, Int.reduceLT, Int.zero_add, Nat.zero_add, List.toList_toArray, Option.map_some, Bool.or_false, Bool.or_true, Bool.false_or, Bool.true_or, Bool.or_self, cond_false, cond_true, List.length_cons, List.length_nil, true_and, and_true, forall_eq, forall_eq_apply_imp_iff, and_imp, ite_true, ite_false, reduceIte, true_or, or_true, false_or, or_false, false_and, and_false, eq_self, List.drop_succ_cons, List.drop_zero, List.zip_cons_cons, List.zip_nil_right, List.all_cons, List.all_nil, false_implies, true_implies, Bool.true_eq_false, Bool.false_eq_true, not_false_eq_true, not_true_eq_false, mx_u, mx_u2, mx_b0, mx_b1, Bool.not_eq_false, Bool.not_eq_true, Nat.le_refl, ne_eq, mG, mF, mGv, Int32.add_sub_cancel, spX1_isPerson, spX1_isIn, mArg]
  cases isInF a0 0 7 <;> simp
set_option maxRecDepth 100000 in
theorem okX1_70 {d : Nat} (hd : 1 + 1 ≤ d) : mOK hX1 1 20 vwC RX1 RX1 d 70 spX1_isPerson := ⟨yX1_isPerson, cX1_isPerson, 1, (some .boolean), 1, ctX1_isPerson, hd, by decide, by decide +kernel, by decide +kernel, by decide +kernel, by decide +kernel, fun _ => by decide +kernel, fun h => by cases h⟩
def mThingF (σ : mS) (s : Int32) : Int32 × mS := if isInF s 0 3 = true ∧ ¬ σ.1 0 = 12 then (σ.1 0, (upd (upd σ.1 7 (σ.1 7 ||| 1 <<< (σ.1 0 &&& 31))) 0 (σ.1 0 + 1), up2 (up2 σ.2 1 (σ.1 0).toNatClampNeg s) 2 (σ.1 0).toNatClampNeg (σ.1 1))) else (-1, σ)
def spX1_thing : mC := mG 1 false (fun σ _ => mOk σ) (fun σ xs => mThingF σ (mArg xs 0))
set_option maxHeartbeats 8000000 in
set_option maxRecDepth 100000 in
theorem ctX1_thing : mCt hX1 1 20 vwC yX1_thing cX1_thing 2 (some .int) 1 spX1_thing := by
  refine mMeet (k := (kX1 [(56, spX1_isIn)])) (bl := 0) (own := RX1) (C := RX1) (T := TX1) (ty0 := tyX1) (by decide +kernel) rfl (tbX1 _) (mCal_cons (okX1_56 (by decide)) mCal_nil) (Or.inl ⟨rfl, rfl, rfl⟩) (by decide) ?_
  intro σ xs hlen hpre X hX
  obtain ⟨a0, rfl⟩ := mx_l1 xs hlen
  change X (0, [some (.ref 0), some (.int a0)], [], σ)
  have hpre : mOk σ := hpre
  refine mWalk hX [] 60 ?_
  simp only [mRun, mCut, mAt, mSet, mArgs, mFind, mLdI, mLdA, mStI, mInc, mBin, mDiv, mJ1, mJ2, mN1, mN2, mGet, mPut, mLdE, mStE, mLdR, mKon, mDup, mDup2, mAft, mCaV, mCaS, mRetI, mRetV, fX1_7, fX1_13, fX1_16, fX1_19, fX1_22, fX1_26, fX1_29, fX1_32, fX1_35, fX1_38, fX1_41, fX1_44, fX1_47, fX1_50, fX1_53, fX1_60, fX1_63, fX1_73, fX1_105, fX1_108, oX1_94, cX1_c, nX1_0, vX1_0, nX1_1, vX1_1, nX1_2, vX1_2, nX1_3, vX1_3, nX1_4, vX1_4, nX1_5, vX1_5, nX1_6, vX1_6, nX1_7, vX1_7, vX1_8, vX1_9, vX1_10, vX1_11, vX1_12, vX1_13, vX1_14, vX1_15, vX1_16, vX1_17, nX1_18, vX1_18, nX1_19, vX1_19, lX1_1, aX1_1, lX1_2, aX1_2, lX1_3, aX1_3, lX1_4, aX1_4, lX1_5, aX1_5, lX1_6, aX1_6, lX1_7, aX1_7, lX1_8, aX1_8, lX1_9, aX1_9, lX1_10, aX1_10, gX1_n, vX1_thing_0, vX1_thing_1, vX1_thing_2, vX1_thing_3, vX1_thing_6, vX1_thing_9, vX1_thing_10, vX1_thing_13, vX1_thing_15, vX1_thing_18, vX1_thing_19, vX1_thing_20, vX1_thing_21, vX1_thing_24, vX1_thing_25, vX1_thing_28, vX1_thing_29, vX1_thing_30, vX1_thing_31, vX1_thing_34, vX1_thing_35, vX1_thing_38, vX1_thing_39, vX1_thing_42, vX1_thing_43, vX1_thing_44, vX1_thing_45, vX1_thing_48, vX1_thing_49, vX1_thing_50, vX1_thing_53, vX1_thing_54, vX1_thing_55, vX1_thing_58, vX1_thing_59, vX1_thing_60, vX1_thing_63, vX1_thing_64, vX1_thing_65, vX1_thing_68, vX1_thing_69, vX1_thing_72, vX1_thing_73, vX1_thing_74, Nat.reduceAdd, Nat.reduceSub, Nat.reduceBEq, Nat.reduceEqDiff, Nat.reduceLeDiff, Int.reduceAdd, Int.reduceSub, Int.reduceNeg, Int.reduceToNat, Int.reduceLE, Int.reduceLT, Int.zero_add, Nat.zero_add, List.toList_toArray, Option.map_some, Bool.or_false, Bool.or_true, Bool.false_or, Bool.true_or, Bool.or_self, cond_false, cond_true, List.length_cons, List.length_nil, true_and, and_true, forall_eq, forall_eq_apply_imp_iff, and_imp, ite_true, ite_false, reduceIte, true_or, or_true, false_or, or_false, false_and, and_false, eq_self, List.drop_succ_cons, List.drop_zero, List.zip_cons_cons, List.zip_nil_right, List.all_cons, List.all_nil, false_implies, true_implies, Bool.true_eq_false, Bool.false_eq_true, not_false_eq_true, not_true_eq_false, mx_u, mx_u2, mx_b0, mx_b1, Bool.not_eq_false, Bool.not_eq_true, Nat.le_refl, ne_eq, mG, mF, mGv, Int32.add_sub_cancel, spX1_thing, spX1_isIn, mArg]
  refine ⟨fun h => ?_, fun h => ⟨fun h2 => ?_, fun h2 => ?_⟩⟩
  · simp [mThingF, h]
  · simp [mThingF, h2]
  · obtain ⟨⟨h3, h4⟩, -⟩ := hpre
    have h5 : ¬ mTn σ = 12 := fun q => h2 (by rw [h3, q]; rfl)
    have h6 : vp_in (σ.1 0) 12 := by rw [h3]; exact (nI_i (n := 12) (by omega) (by omega)).1
    refine ⟨h6, h6, ?_⟩
    simp [mThingF, h, h2]
def mStockF (σ : mS) (x b : Int32) : Int32 × mS := if isInF x 0 (σ.1 0 - 1) = true ∧ ¬ b32 (hB (σ.1 7) x) = b then (1, (upd σ.1 7 (σ.1 7 ^^^ 1 <<< (x &&& 31)), σ.2)) else (0, σ)
def spX1_stock : mC := mG 2 false (fun _ _ => True) (fun σ xs => mStockF σ (mArg xs 0) (mArg xs 1))
set_option maxHeartbeats 8000000 in
set_option maxRecDepth 100000 in
theorem ctX1_stock : mCt hX1 1 20 vwC yX1_stock cX1_stock 3 (some .boolean) 2 spX1_stock := by
  refine mMeet (k := (kX1 [(66, spX1_isThing)])) (bl := 1) (own := RX1) (C := RX1) (T := TX1) (ty0 := tyX1) (by decide +kernel) rfl (tbX1 _) (mCal_cons (okX1_66 (by decide)) mCal_nil) (Or.inr (Or.inl ⟨rfl, rfl, rfl⟩)) (by decide) ?_
  intro σ xs hlen hpre X hX
  obtain ⟨a0, a1, rfl⟩ := mx_l2 xs hlen
  change X (0, [some (.ref 0), some (.int a0), some (.int a1)], [], σ)
  refine mWalk hX [] 60 ?_
  simp only [mRun, mCut, mAt, mSet, mArgs, mFind, mLdI, mLdA, mStI, mInc, mBin, mDiv, mJ1, mJ2, mN1, mN2, mGet, mPut, mLdE, mStE, mLdR, mKon, mDup, mDup2, mAft, mCaV, mCaS, mRetI, mRetV, fX1_7, fX1_13, fX1_16, fX1_19, fX1_22, fX1_26, fX1_29, fX1_32, fX1_35, fX1_38, fX1_41, fX1_44, fX1_47, fX1_50, fX1_53, fX1_60, fX1_63, fX1_73, fX1_105, fX1_108, oX1_94, cX1_c, nX1_0, vX1_0, nX1_1, vX1_1, nX1_2, vX1_2, nX1_3, vX1_3, nX1_4, vX1_4, nX1_5, vX1_5, nX1_6, vX1_6, nX1_7, vX1_7, vX1_8, vX1_9, vX1_10, vX1_11, vX1_12, vX1_13, vX1_14, vX1_15, vX1_16, vX1_17, nX1_18, vX1_18, nX1_19, vX1_19, lX1_1, aX1_1, lX1_2, aX1_2, lX1_3, aX1_3, lX1_4, aX1_4, lX1_5, aX1_5, lX1_6, aX1_6, lX1_7, aX1_7, lX1_8, aX1_8, lX1_9, aX1_9, lX1_10, aX1_10, gX1_n, vX1_stock_0, vX1_stock_1, vX1_stock_2, vX1_stock_5, vX1_stock_8, vX1_stock_9, vX1_stock_12, vX1_stock_13, vX1_stock_14, vX1_stock_15, vX1_stock_16, vX1_stock_17, vX1_stock_20, vX1_stock_21, vX1_stock_24, vX1_stock_25, vX1_stock_26, vX1_stock_29, vX1_stock_30, vX1_stock_31, vX1_stock_32, vX1_stock_33, vX1_stock_36, vX1_stock_37, vX1_stock_38, vX1_stock_39, vX1_stock_40, vX1_stock_43, vX1_stock_44, Nat.reduceAdd, Nat.reduceSub, Nat.reduceBEq, Nat.reduceEqDiff, Nat.reduceLeDiff, Int.reduceAdd, Int.reduceSub, Int.reduceNeg, Int.reduceToNat, Int.reduceLE, Int.reduceLT, Int.zero_add, Nat.zero_add, List.toList_toArray, Option.map_some, Bool.or_false, Bool.or_true, Bool.false_or, Bool.true_or, Bool.or_self, cond_false, cond_true, List.length_cons, List.length_nil, true_and, and_true, forall_eq, forall_eq_apply_imp_iff, and_imp, ite_true, ite_false, reduceIte, true_or, or_true, false_or, or_false, false_and, and_false, eq_self, List.drop_succ_cons, List.drop_zero, List.zip_cons_cons, List.zip_nil_right, List.all_cons, List.all_nil, false_implies, true_implies, Bool.true_eq_false, Bool.false_eq_true, not_false_eq_true, not_true_eq_false, mx_u, mx_u2, mx_b0, mx_b1, Bool.not_eq_false, Bool.not_eq_true, Nat.le_refl, ne_eq, mG, mF, mGv, Int32.add_sub_cancel, spX1_stock, spX1_isThing, mArg]
  refine ⟨fun h => ?_, fun h => ⟨fun h2 => ⟨fun h3 => ?_, fun h3 => ?_⟩, fun h2 => ⟨fun h3 => ?_, fun h3 => ?_⟩⟩⟩
  · simp [mStockF, h]
  · subst h3; simp [mStockF, hB, h2, b32]
  · simp [mStockF, h, hB, h2, h3, b32]
  · subst h3; simp [mStockF, hB, h2, b32]
  · simp [mStockF, h, hB, h2, h3, b32]
def mSetF (σ : mS) (w v : Int32) : Int32 × mS := if isInF w 0 3 = true ∧ isInF v 1 (if w = 0 then 4 else if w = 1 then 5 else 9) = true then (1, (upd σ.1 (if w = 0 then 3 else if w = 1 then 4 else if w = 2 then 5 else 6) v, σ.2)) else (0, σ)
def spX1_set : mC := mG 2 false (fun _ _ => True) (fun σ xs => mSetF σ (mArg xs 0) (mArg xs 1))
set_option maxHeartbeats 8000000 in
set_option maxRecDepth 100000 in
theorem ctX1_set : mCt hX1 1 20 vwC yX1_set cX1_set 3 (some .boolean) 1 spX1_set := by
  refine mMeet (k := (kX1 [(56, spX1_isIn)])) (bl := 1) (own := RX1) (C := RX1) (T := TX1) (ty0 := tyX1) (by decide +kernel) rfl (tbX1 _) (mCal_cons (okX1_56 (by decide)) mCal_nil) (Or.inr (Or.inl ⟨rfl, rfl, rfl⟩)) (by decide) ?_
  intro σ xs hlen hpre X hX
  obtain ⟨a0, a1, rfl⟩ := mx_l2 xs hlen
  change X (0, [some (.ref 0), some (.int a0), some (.int a1)], [], σ)
  refine mWalk hX [] 60 ?_
  simp only [mRun, mCut, mAt, mSet, mArgs, mFind, mLdI, mLdA, mStI, mInc, mBin, mDiv, mJ1, mJ2, mN1, mN2, mGet, mPut, mLdE, mStE, mLdR, mKon, mDup, mDup2, mAft, mCaV, mCaS, mRetI, mRetV, fX1_7, fX1_13, fX1_16, fX1_19, fX1_22, fX1_26, fX1_29, fX1_32, fX1_35, fX1_38, fX1_41, fX1_44, fX1_47, fX1_50, fX1_53, fX1_60, fX1_63, fX1_73, fX1_105, fX1_108, oX1_94, cX1_c, nX1_0, vX1_0, nX1_1, vX1_1, nX1_2, vX1_2, nX1_3, vX1_3, nX1_4, vX1_4, nX1_5, vX1_5, nX1_6, vX1_6, nX1_7, vX1_7, vX1_8, vX1_9, vX1_10, vX1_11, vX1_12, vX1_13, vX1_14, vX1_15, vX1_16, vX1_17, nX1_18, vX1_18, nX1_19, vX1_19, lX1_1, aX1_1, lX1_2, aX1_2, lX1_3, aX1_3, lX1_4, aX1_4, lX1_5, aX1_5, lX1_6, aX1_6, lX1_7, aX1_7, lX1_8, aX1_8, lX1_9, aX1_9, lX1_10, aX1_10, gX1_n, vX1_set_0, vX1_set_1, vX1_set_2, vX1_set_3, vX1_set_6, vX1_set_9, vX1_set_10, vX1_set_11, vX1_set_12, vX1_set_15, vX1_set_16, vX1_set_19, vX1_set_20, vX1_set_21, vX1_set_24, vX1_set_25, vX1_set_28, vX1_set_30, vX1_set_33, vX1_set_36, vX1_set_37, vX1_set_38, vX1_set_39, vX1_set_42, vX1_set_43, vX1_set_44, vX1_set_47, vX1_set_50, vX1_set_51, vX1_set_52, vX1_set_55, vX1_set_56, vX1_set_57, vX1_set_60, vX1_set_63, vX1_set_64, vX1_set_65, vX1_set_68, vX1_set_69, vX1_set_70, vX1_set_73, vX1_set_76, vX1_set_77, vX1_set_78, vX1_set_81, vX1_set_82, Nat.reduceAdd, Nat.reduceSub, Nat.reduceBEq, Nat.reduceEqDiff, Nat.reduceLeDiff, Int.reduceAdd, Int.reduceSub, Int.reduceNeg, Int.reduceToNat, Int.reduceLE, Int.reduceLT, Int.zero_add, Nat.zero_add, List.toList_toArray, Option.map_some, Bool.or_false, Bool.or_true, Bool.false_or, Bool.true_or, Bool.or_self, cond_false, cond_true, List.length_cons, List.length_nil, true_and, and_true, forall_eq, forall_eq_apply_imp_iff, and_imp, ite_true, ite_false, reduceIte, true_or, or_true, false_or, or_false, false_and, and_false, eq_self, List.drop_succ_cons, List.drop_zero, List.zip_cons_cons, List.zip_nil_right, List.all_cons, List.all_nil, false_implies, true_implies, Bool.true_eq_false, Bool.false_eq_true, not_false_eq_true, not_true_eq_false, mx_u, mx_u2, mx_b0, mx_b1, Bool.not_eq_false, Bool.not_eq_true, Nat.le_refl, ne_eq, mG, mF, mGv, Int32.add_sub_cancel, spX1_set, spX1_isIn, mArg]
  by_cases q : isInF a0 0 3 = true
  · by_cases w0 : a0 = 0
    · subst w0
      by_cases z : isInF a1 1 4 = true <;> simp [mSetF, q, z]
    · by_cases w1 : a0 = 1
      · subst w1
        by_cases z : isInF a1 1 5 = true <;> simp [mSetF, q, z]
      · by_cases w2 : a0 = 2
        · subst w2
          by_cases z : isInF a1 1 9 = true <;> simp [mSetF, q, z]
        · by_cases z : isInF a1 1 9 = true <;> simp [mSetF, q, z, w0, w1, w2]
  · simp [mSetF, q]
def mApartF (σ : mS) (a b i : Int32) : Int32 × mS := if isInF a 0 (σ.1 0 - 1) = true ∧ isInF b 0 (σ.1 0 - 1) = true ∧ ¬ a = b ∧ ¬ b32 (hB (σ.2 3 a.toNatClampNeg) b) = i then (1, (σ.1, up2 (up2 σ.2 3 a.toNatClampNeg (σ.2 3 a.toNatClampNeg ^^^ 1 <<< (b &&& 31))) 3 b.toNatClampNeg (σ.2 3 b.toNatClampNeg ^^^ 1 <<< (a &&& 31)))) else (0, σ)
def spX1_apart : mC := mG 3 false (fun σ _ => mOk σ) (fun σ xs => mApartF σ (mArg xs 0) (mArg xs 1) (mArg xs 2))
set_option maxHeartbeats 8000000 in
set_option maxRecDepth 100000 in
theorem ctX1_apart : mCt hX1 1 20 vwC yX1_apart cX1_apart 4 (some .boolean) 2 spX1_apart := by
  refine mMeet (k := (kX1 [(66, spX1_isThing)])) (bl := 1) (own := RX1) (C := RX1) (T := TX1) (ty0 := tyX1) (by decide +kernel) rfl (tbX1 _) (mCal_cons (okX1_66 (by decide)) mCal_nil) (Or.inr (Or.inl ⟨rfl, rfl, rfl⟩)) (by decide) ?_
  intro σ xs hlen hpre X hX
  obtain ⟨a0, a1, a2, rfl⟩ := mx_l3 xs hlen
  change X (0, [some (.ref 0), some (.int a0), some (.int a1), some (.int a2)], [], σ)
  have hpre : mOk σ := hpre
  refine mWalk hX [] 60 ?_
  simp only [mRun, mCut, mAt, mSet, mArgs, mFind, mLdI, mLdA, mStI, mInc, mBin, mDiv, mJ1, mJ2, mN1, mN2, mGet, mPut, mLdE, mStE, mLdR, mKon, mDup, mDup2, mAft, mCaV, mCaS, mRetI, mRetV, fX1_7, fX1_13, fX1_16, fX1_19, fX1_22, fX1_26, fX1_29, fX1_32, fX1_35, fX1_38, fX1_41, fX1_44, fX1_47, fX1_50, fX1_53, fX1_60, fX1_63, fX1_73, fX1_105, fX1_108, oX1_94, cX1_c, nX1_0, vX1_0, nX1_1, vX1_1, nX1_2, vX1_2, nX1_3, vX1_3, nX1_4, vX1_4, nX1_5, vX1_5, nX1_6, vX1_6, nX1_7, vX1_7, vX1_8, vX1_9, vX1_10, vX1_11, vX1_12, vX1_13, vX1_14, vX1_15, vX1_16, vX1_17, nX1_18, vX1_18, nX1_19, vX1_19, lX1_1, aX1_1, lX1_2, aX1_2, lX1_3, aX1_3, lX1_4, aX1_4, lX1_5, aX1_5, lX1_6, aX1_6, lX1_7, aX1_7, lX1_8, aX1_8, lX1_9, aX1_9, lX1_10, aX1_10, gX1_n, vX1_apart_0, vX1_apart_1, vX1_apart_2, vX1_apart_5, vX1_apart_8, vX1_apart_9, vX1_apart_10, vX1_apart_13, vX1_apart_16, vX1_apart_17, vX1_apart_18, vX1_apart_21, vX1_apart_22, vX1_apart_25, vX1_apart_26, vX1_apart_27, vX1_apart_28, vX1_apart_29, vX1_apart_30, vX1_apart_31, vX1_apart_32, vX1_apart_35, vX1_apart_36, vX1_apart_39, vX1_apart_40, vX1_apart_41, vX1_apart_44, vX1_apart_45, vX1_apart_46, vX1_apart_47, vX1_apart_50, vX1_apart_51, vX1_apart_52, vX1_apart_53, vX1_apart_54, vX1_apart_55, vX1_apart_56, vX1_apart_57, vX1_apart_58, vX1_apart_59, vX1_apart_62, vX1_apart_63, vX1_apart_64, vX1_apart_65, vX1_apart_66, vX1_apart_67, vX1_apart_68, vX1_apart_69, vX1_apart_70, vX1_apart_71, Nat.reduceAdd, Nat.reduceSub, Nat.reduceBEq, Nat.reduceEqDiff, Nat.reduceLeDiff, Int.reduceAdd, Int.reduceSub, Int.reduceNeg, Int.reduceToNat, Int.reduceLE, Int.reduceLT, Int.zero_add, Nat.zero_add, List.toList_toArray, Option.map_some, Bool.or_false, Bool.or_true, Bool.false_or, Bool.true_or, Bool.or_self, cond_false, cond_true, List.length_cons, List.length_nil, true_and, and_true, forall_eq, forall_eq_apply_imp_iff, and_imp, ite_true, ite_false, reduceIte, true_or, or_true, false_or, or_false, false_and, and_false, eq_self, List.drop_succ_cons, List.drop_zero, List.zip_cons_cons, List.zip_nil_right, List.all_cons, List.all_nil, false_implies, true_implies, Bool.true_eq_false, Bool.false_eq_true, not_false_eq_true, not_true_eq_false, mx_u, mx_u2, mx_b0, mx_b1, Bool.not_eq_false, Bool.not_eq_true, Nat.le_refl, ne_eq, mG, mF, mGv, Int32.add_sub_cancel, spX1_apart, spX1_isThing, mArg]
  refine ⟨fun h => by simp [mApartF, h], fun h => ⟨fun h2 => by simp [mApartF, h2], fun h2 => ⟨fun h3 => by simp [mApartF, h3], fun h3 => ?_⟩⟩⟩
  obtain ⟨j, hj, e1, v1, t1⟩ := mThing_ix hpre h
  obtain ⟨i, hi, e2, v2, t2⟩ := mThing_ix hpre h2
  have ne : ¬ a1.toNatClampNeg = a0.toNatClampNeg := by
    rw [t1, t2]
    intro q
    exact h3 (by rw [e1, e2, q])
  refine ⟨v1, fun h4 => ⟨fun h5 => ?_, fun h5 => ⟨v1, v1, v2, v2, ?_⟩⟩, fun h4 => ⟨fun h5 => ?_, fun h5 => ⟨v1, v1, v2, v2, ?_⟩⟩⟩
  · subst h5; simp [mApartF, hB, h4, b32]
  · simp [mApartF, h, h2, h3, hB, h4, b32, h5, ne]
  · subst h5; simp [mApartF, hB, h4, b32]
  · simp [mApartF, h, h2, h3, hB, h4, b32, h5, ne]
