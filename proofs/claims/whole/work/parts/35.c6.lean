theorem isS_lt (x : Int32) : isInF x 0 3 = (decide (0 ≤ x) && decide (x < 4)) := by
  have := isIn_lt (x := x) (n := 4) (by omega)
  rwa [show nI 4 - 1 = 3 by decide +kernel] at this
theorem isS_ix {x : Int32} (h : isInF x 0 3 = true) : ∃ j, j < 4 ∧ x = nI j ∧ vp_in x 4 ∧ x.toNatClampNeg = j := by
  have := isIn_ix (x := x) (n := 4) (by omega)
  rw [show nI 4 - 1 = 3 by decide +kernel] at this
  obtain ⟨j, hj, rfl⟩ := this.mp h
  exact ⟨j, hj, rfl, (nI_i hj (by omega)).1, nI_clamp (by omega)⟩
def cThingF (σ : mS) (s : Int32) : Int32 × mS := if isInF s 0 3 = true ∧ ¬ σ.1 2 = 12 then (σ.1 2, (upd (upd σ.1 2 (σ.1 2 + 1)) 3 (σ.1 3 ||| (1 : Int32) <<< (σ.1 2 &&& 31)), up2 (up2 σ.2 2 (σ.1 2).toNatClampNeg (σ.1 0)) 3 s.toNatClampNeg (σ.2 3 s.toNatClampNeg ||| (1 : Int32) <<< (σ.1 2 &&& 31)))) else (-1, σ)
def spX0_thing : mC := mG 1 false (fun σ _ => cOk σ) (fun σ xs => cThingF σ (mArg xs 0))
set_option maxHeartbeats 8000000 in
set_option maxRecDepth 100000 in
theorem ctX0_thing : mCt hX0 0 15 vwC yX0_thing cX0_thing 3 (some .int) 0 spX0_thing := by
  refine mMeet (k := (kX0 [])) (bl := 0) (own := RX0) (C := RX0) (T := TX0) (ty0 := tyX0) (by decide +kernel) rfl (tbX0 _) mCal_nil (Or.inl ⟨rfl, rfl, rfl⟩) (by decide) ?_
  intro σ xs hlen hpre X hX
  obtain ⟨a0, rfl⟩ := mx_l1 xs hlen
  change X (0, [some (.ref 0), some (.int a0), none], [], σ)
  have hok : cOk σ := hpre
  obtain ⟨ht, hn⟩ := hok.1
  have c12 : σ.1 2 < 12 ↔ ¬ σ.1 2 = 12 := by
    rw [ht, show (12 : Int32) = nI 12 from rfl, nI_ltI (by omega) (by omega), nI_eq (by omega) (by omega)]
    omega
  by_cases hs : isInF a0 0 3 = true
  · obtain ⟨j, hj, rfl, v1, e1⟩ := isS_ix hs
    have c0 : ¬ nI j < 0 := nI_pos (by omega)
    have c4 : ¬ (4 : Int32) ≤ nI j := nI_ge (b := 4) hj (by omega)
    by_cases h2 : σ.1 2 = 12
    · have h3 : ¬ σ.1 2 < 12 := fun q => c12.mp q h2
      refine mWalk hX [] 60 ?_
      simp only [mRun, mCut, mAt, mSet, mArgs, mFind, mLdI, mLdA, mStI, mInc, mBin, mDiv, mJ1, mJ2, mN1, mN2, mGet, mPut, mLdE, mStE, mLdR, mKon, mDup, mDup2, mAft, mCaV, mCaS, mRetI, mRetV, fX0_18, fX0_21, fX0_24, fX0_27, fX0_30, fX0_33, fX0_36, fX0_39, fX0_44, fX0_47, fX0_50, fX0_53, fX0_57, fX0_60, fX0_83, oX0_117, cX0_c, nX0_0, vX0_0, vX0_1, nX0_2, vX0_2, nX0_3, vX0_3, vX0_4, vX0_5, vX0_6, nX0_7, vX0_7, vX0_8, vX0_9, vX0_10, vX0_11, vX0_12, vX0_13, vX0_14, lX0_1, aX0_1, lX0_2, aX0_2, lX0_3, aX0_3, lX0_4, aX0_4, lX0_5, aX0_5, lX0_6, aX0_6, lX0_7, aX0_7, lX0_8, aX0_8, lX0_9, rX0_9, lX0_10, rX0_10, lX0_11, aX0_11, gX0_n, vX0_thing_0, vX0_thing_1, vX0_thing_4, vX0_thing_5, vX0_thing_6, vX0_thing_9, vX0_thing_10, vX0_thing_13, vX0_thing_15, vX0_thing_18, vX0_thing_19, vX0_thing_20, vX0_thing_21, vX0_thing_24, vX0_thing_25, vX0_thing_26, vX0_thing_27, vX0_thing_30, vX0_thing_31, vX0_thing_32, vX0_thing_35, vX0_thing_36, vX0_thing_39, vX0_thing_40, vX0_thing_41, vX0_thing_44, vX0_thing_45, vX0_thing_46, vX0_thing_49, vX0_thing_50, vX0_thing_51, vX0_thing_52, vX0_thing_53, vX0_thing_54, vX0_thing_55, vX0_thing_56, vX0_thing_57, vX0_thing_58, vX0_thing_59, vX0_thing_62, vX0_thing_63, vX0_thing_64, vX0_thing_65, vX0_thing_66, vX0_thing_69, vX0_thing_70, Nat.reduceAdd, Nat.reduceSub, Nat.reduceBEq, Nat.reduceEqDiff, Nat.reduceLeDiff, Int.reduceAdd, Int.reduceSub, Int.reduceNeg, Int.reduceToNat, Int.reduceLE, Int.reduceLT, Int.zero_add, Nat.zero_add, List.toList_toArray, Option.map_some, Bool.or_false, Bool.or_true, Bool.false_or, Bool.true_or, Bool.or_self, cond_false, cond_true, List.length_cons, List.length_nil, true_and, and_true, forall_eq, forall_eq_apply_imp_iff, and_imp, ite_true, ite_false, reduceIte, true_or, or_true, false_or, or_false, false_and, and_false, eq_self, List.drop_succ_cons, List.drop_zero, List.zip_cons_cons, List.zip_nil_right, List.all_cons, List.all_nil, false_implies, true_implies, Bool.true_eq_false, Bool.false_eq_true, not_false_eq_true, not_true_eq_false, mx_u, mx_u2, mx_b0, mx_b1, Bool.not_eq_false, Bool.not_eq_true, Nat.le_refl, ne_eq, mG, mF, mGv, Int32.add_sub_cancel, spX0_thing, mArg, c0, c4, h3]
      simp [cThingF, h2]
    · have h3 : σ.1 2 < 12 := c12.mpr h2
      have h5 : ¬ cTn σ = 12 := fun q => h2 (by rw [ht, q]; rfl)
      have h6 : vp_in (σ.1 2) 12 := by rw [ht]; exact (nI_i (n := 12) (by omega) (by omega)).1
      refine mWalk hX [] 60 ?_
      simp only [mRun, mCut, mAt, mSet, mArgs, mFind, mLdI, mLdA, mStI, mInc, mBin, mDiv, mJ1, mJ2, mN1, mN2, mGet, mPut, mLdE, mStE, mLdR, mKon, mDup, mDup2, mAft, mCaV, mCaS, mRetI, mRetV, fX0_18, fX0_21, fX0_24, fX0_27, fX0_30, fX0_33, fX0_36, fX0_39, fX0_44, fX0_47, fX0_50, fX0_53, fX0_57, fX0_60, fX0_83, oX0_117, cX0_c, nX0_0, vX0_0, vX0_1, nX0_2, vX0_2, nX0_3, vX0_3, vX0_4, vX0_5, vX0_6, nX0_7, vX0_7, vX0_8, vX0_9, vX0_10, vX0_11, vX0_12, vX0_13, vX0_14, lX0_1, aX0_1, lX0_2, aX0_2, lX0_3, aX0_3, lX0_4, aX0_4, lX0_5, aX0_5, lX0_6, aX0_6, lX0_7, aX0_7, lX0_8, aX0_8, lX0_9, rX0_9, lX0_10, rX0_10, lX0_11, aX0_11, gX0_n, vX0_thing_0, vX0_thing_1, vX0_thing_4, vX0_thing_5, vX0_thing_6, vX0_thing_9, vX0_thing_10, vX0_thing_13, vX0_thing_15, vX0_thing_18, vX0_thing_19, vX0_thing_20, vX0_thing_21, vX0_thing_24, vX0_thing_25, vX0_thing_26, vX0_thing_27, vX0_thing_30, vX0_thing_31, vX0_thing_32, vX0_thing_35, vX0_thing_36, vX0_thing_39, vX0_thing_40, vX0_thing_41, vX0_thing_44, vX0_thing_45, vX0_thing_46, vX0_thing_49, vX0_thing_50, vX0_thing_51, vX0_thing_52, vX0_thing_53, vX0_thing_54, vX0_thing_55, vX0_thing_56, vX0_thing_57, vX0_thing_58, vX0_thing_59, vX0_thing_62, vX0_thing_63, vX0_thing_64, vX0_thing_65, vX0_thing_66, vX0_thing_69, vX0_thing_70, Nat.reduceAdd, Nat.reduceSub, Nat.reduceBEq, Nat.reduceEqDiff, Nat.reduceLeDiff, Int.reduceAdd, Int.reduceSub, Int.reduceNeg, Int.reduceToNat, Int.reduceLE, Int.reduceLT, Int.zero_add, Nat.zero_add, List.toList_toArray, Option.map_some, Bool.or_false, Bool.or_true, Bool.false_or, Bool.true_or, Bool.or_self, cond_false, cond_true, List.length_cons, List.length_nil, true_and, and_true, forall_eq, forall_eq_apply_imp_iff, and_imp, ite_true, ite_false, reduceIte, true_or, or_true, false_or, or_false, false_and, and_false, eq_self, List.drop_succ_cons, List.drop_zero, List.zip_cons_cons, List.zip_nil_right, List.all_cons, List.all_nil, false_implies, true_implies, Bool.true_eq_false, Bool.false_eq_true, not_false_eq_true, not_true_eq_false, mx_u, mx_u2, mx_b0, mx_b1, Bool.not_eq_false, Bool.not_eq_true, Nat.le_refl, ne_eq, mG, mF, mGv, Int32.add_sub_cancel, spX0_thing, mArg, c0, c4, h3, v1, e1, h6]
      simp [cThingF, hs, h2, e1]
  · refine mWalk hX [] 60 ?_
    simp only [mRun, mCut, mAt, mSet, mArgs, mFind, mLdI, mLdA, mStI, mInc, mBin, mDiv, mJ1, mJ2, mN1, mN2, mGet, mPut, mLdE, mStE, mLdR, mKon, mDup, mDup2, mAft, mCaV, mCaS, mRetI, mRetV, fX0_18, fX0_21, fX0_24, fX0_27, fX0_30, fX0_33, fX0_36, fX0_39, fX0_44, fX0_47, fX0_50, fX0_53, fX0_57, fX0_60, fX0_83, oX0_117, cX0_c, nX0_0, vX0_0, vX0_1, nX0_2, vX0_2, nX0_3, vX0_3, vX0_4, vX0_5, vX0_6, nX0_7, vX0_7, vX0_8, vX0_9, vX0_10, vX0_11, vX0_12, vX0_13, vX0_14, lX0_1, aX0_1, lX0_2, aX0_2, lX0_3, aX0_3, lX0_4, aX0_4, lX0_5, aX0_5, lX0_6, aX0_6, lX0_7, aX0_7, lX0_8, aX0_8, lX0_9, rX0_9, lX0_10, rX0_10, lX0_11, aX0_11, gX0_n, vX0_thing_0, vX0_thing_1, vX0_thing_4, vX0_thing_5, vX0_thing_6, vX0_thing_9, vX0_thing_10, vX0_thing_13, vX0_thing_15, vX0_thing_18, vX0_thing_19, vX0_thing_20, vX0_thing_21, vX0_thing_24, vX0_thing_25, vX0_thing_26, vX0_thing_27, vX0_thing_30, vX0_thing_31, vX0_thing_32, vX0_thing_35, vX0_thing_36, vX0_thing_39, vX0_thing_40, vX0_thing_41, vX0_thing_44, vX0_thing_45, vX0_thing_46, vX0_thing_49, vX0_thing_50, vX0_thing_51, vX0_thing_52, vX0_thing_53, vX0_thing_54, vX0_thing_55, vX0_thing_56, vX0_thing_57, vX0_thing_58, vX0_thing_59, vX0_thing_62, vX0_thing_63, vX0_thing_64, vX0_thing_65, vX0_thing_66, vX0_thing_69, vX0_thing_70, Nat.reduceAdd, Nat.reduceSub, Nat.reduceBEq, Nat.reduceEqDiff, Nat.reduceLeDiff, Int.reduceAdd, Int.reduceSub, Int.reduceNeg, Int.reduceToNat, Int.reduceLE, Int.reduceLT, Int.zero_add, Nat.zero_add, List.toList_toArray, Option.map_some, Bool.or_false, Bool.or_true, Bool.false_or, Bool.true_or, Bool.or_self, cond_false, cond_true, List.length_cons, List.length_nil, true_and, and_true, forall_eq, forall_eq_apply_imp_iff, and_imp, ite_true, ite_false, reduceIte, true_or, or_true, false_or, or_false, false_and, and_false, eq_self, List.drop_succ_cons, List.drop_zero, List.zip_cons_cons, List.zip_nil_right, List.all_cons, List.all_nil, false_implies, true_implies, Bool.true_eq_false, Bool.false_eq_true, not_false_eq_true, not_true_eq_false, mx_u, mx_u2, mx_b0, mx_b1, Bool.not_eq_false, Bool.not_eq_true, Nat.le_refl, ne_eq, mG, mF, mGv, Int32.add_sub_cancel, spX0_thing, mArg]
    have e2 : cThingF σ a0 = (-1, σ) := by unfold cThingF; rw [if_neg (fun q => hs q.1)]
    rw [e2]
    refine ⟨fun _ => ⟨rfl, rfl⟩, fun h1 => ⟨fun _ => ⟨rfl, rfl⟩, fun h2 => ?_⟩⟩
    exact absurd (by rw [isS_lt]; simp [Int32.not_lt.mp h1, Int32.not_le.mp h2]) hs
def cStockF (σ : mS) (x b : Int32) : Int32 × mS := if isInF x 0 (σ.1 2 - 1) = true ∧ ¬ b32 (hB (σ.1 3) x) = b then (1, (upd σ.1 3 (σ.1 3 ^^^ (1 : Int32) <<< (x &&& 31)), σ.2)) else (0, σ)
def spX0_stock : mC := mG 2 false (fun σ _ => cOk σ) (fun σ xs => cStockF σ (mArg xs 0) (mArg xs 1))
set_option maxHeartbeats 8000000 in
set_option maxRecDepth 100000 in
theorem ctX0_stock : mCt hX0 0 15 vwC yX0_stock cX0_stock 3 (some .boolean) 1 spX0_stock := by
  refine mMeet (k := (kX0 [(63, spX0_isThing), (67, spX0_has)])) (bl := 1) (own := RX0) (C := RX0) (T := TX0) (ty0 := tyX0) (by decide +kernel) rfl (tbX0 _) (mCal_cons (okX0_63 (by decide)) (mCal_cons (okX0_67 (by decide)) mCal_nil)) (Or.inr (Or.inl ⟨rfl, rfl, rfl⟩)) (by decide) ?_
  intro σ xs hlen hpre X hX
  obtain ⟨a0, a1, rfl⟩ := mx_l2 xs hlen
  change X (0, [some (.ref 0), some (.int a0), some (.int a1)], [], σ)
  have hok : cOk σ := hpre
  refine mWalk hX [] 60 ?_
  simp only [mRun, mCut, mAt, mSet, mArgs, mFind, mLdI, mLdA, mStI, mInc, mBin, mDiv, mJ1, mJ2, mN1, mN2, mGet, mPut, mLdE, mStE, mLdR, mKon, mDup, mDup2, mAft, mCaV, mCaS, mRetI, mRetV, fX0_18, fX0_21, fX0_24, fX0_27, fX0_30, fX0_33, fX0_36, fX0_39, fX0_44, fX0_47, fX0_50, fX0_53, fX0_57, fX0_60, fX0_83, oX0_117, cX0_c, nX0_0, vX0_0, vX0_1, nX0_2, vX0_2, nX0_3, vX0_3, vX0_4, vX0_5, vX0_6, nX0_7, vX0_7, vX0_8, vX0_9, vX0_10, vX0_11, vX0_12, vX0_13, vX0_14, lX0_1, aX0_1, lX0_2, aX0_2, lX0_3, aX0_3, lX0_4, aX0_4, lX0_5, aX0_5, lX0_6, aX0_6, lX0_7, aX0_7, lX0_8, aX0_8, lX0_9, rX0_9, lX0_10, rX0_10, lX0_11, aX0_11, gX0_n, vX0_stock_0, vX0_stock_1, vX0_stock_2, vX0_stock_5, vX0_stock_8, vX0_stock_9, vX0_stock_12, vX0_stock_13, vX0_stock_16, vX0_stock_17, vX0_stock_20, vX0_stock_21, vX0_stock_22, vX0_stock_23, vX0_stock_24, vX0_stock_27, vX0_stock_28, vX0_stock_29, vX0_stock_30, vX0_stock_31, vX0_stock_34, vX0_stock_35, Nat.reduceAdd, Nat.reduceSub, Nat.reduceBEq, Nat.reduceEqDiff, Nat.reduceLeDiff, Int.reduceAdd, Int.reduceSub, Int.reduceNeg, Int.reduceToNat, Int.reduceLE, Int.reduceLT, Int.zero_add, Nat.zero_add, List.toList_toArray, Option.map_some, Bool.or_false, Bool.or_true, Bool.false_or, Bool.true_or, Bool.or_self, cond_false, cond_true, List.length_cons, List.length_nil, true_and, and_true, forall_eq, forall_eq_apply_imp_iff, and_imp, ite_true, ite_false, reduceIte, true_or, or_true, false_or, or_false, false_and, and_false, eq_self, List.drop_succ_cons, List.drop_zero, List.zip_cons_cons, List.zip_nil_right, List.all_cons, List.all_nil, false_implies, true_implies, Bool.true_eq_false, Bool.false_eq_true, not_false_eq_true, not_true_eq_false, mx_u, mx_u2, mx_b0, mx_b1, Bool.not_eq_false, Bool.not_eq_true, Nat.le_refl, ne_eq, mG, mF, mGv, Int32.add_sub_cancel, spX0_stock, spX0_isThing, spX0_has, mArg, hok]
  refine ⟨fun h => by simp [cStockF, h], fun h => ⟨fun h3 => by simp [cStockF, h3], fun h3 => by simp [cStockF, h, h3]⟩⟩
def cApartF (σ : mS) (a b i : Int32) : Int32 × mS := if isInF a 0 (σ.1 2 - 1) = true ∧ isInF b 0 (σ.1 2 - 1) = true ∧ ¬ a = b ∧ ¬ b32 (hB (σ.2 4 a.toNatClampNeg) b) = i then (1, (σ.1, up2 (up2 σ.2 4 a.toNatClampNeg (σ.2 4 a.toNatClampNeg ^^^ (1 : Int32) <<< (b &&& 31))) 4 b.toNatClampNeg (σ.2 4 b.toNatClampNeg ^^^ (1 : Int32) <<< (a &&& 31)))) else (0, σ)
def spX0_apart : mC := mG 3 false (fun σ _ => cOk σ) (fun σ xs => cApartF σ (mArg xs 0) (mArg xs 1) (mArg xs 2))
set_option maxHeartbeats 8000000 in
set_option maxRecDepth 100000 in
theorem ctX0_apart : mCt hX0 0 15 vwC yX0_apart cX0_apart 4 (some .boolean) 2 spX0_apart := by
  refine mMeet (k := (kX0 [(74, spX0_areTwoThings), (67, spX0_has)])) (bl := 1) (own := RX0) (C := RX0) (T := TX0) (ty0 := tyX0) (by decide +kernel) rfl (tbX0 _) (mCal_cons (okX0_74 (by decide)) (mCal_cons (okX0_67 (by decide)) mCal_nil)) (Or.inr (Or.inl ⟨rfl, rfl, rfl⟩)) (by decide) ?_
  intro σ xs hlen hpre X hX
  obtain ⟨a0, a1, a2, rfl⟩ := mx_l3 xs hlen
  change X (0, [some (.ref 0), some (.int a0), some (.int a1), some (.int a2)], [], σ)
  have hok : cOk σ := hpre
  refine mWalk hX [] 60 ?_
  simp only [mRun, mCut, mAt, mSet, mArgs, mFind, mLdI, mLdA, mStI, mInc, mBin, mDiv, mJ1, mJ2, mN1, mN2, mGet, mPut, mLdE, mStE, mLdR, mKon, mDup, mDup2, mAft, mCaV, mCaS, mRetI, mRetV, fX0_18, fX0_21, fX0_24, fX0_27, fX0_30, fX0_33, fX0_36, fX0_39, fX0_44, fX0_47, fX0_50, fX0_53, fX0_57, fX0_60, fX0_83, oX0_117, cX0_c, nX0_0, vX0_0, vX0_1, nX0_2, vX0_2, nX0_3, vX0_3, vX0_4, vX0_5, vX0_6, nX0_7, vX0_7, vX0_8, vX0_9, vX0_10, vX0_11, vX0_12, vX0_13, vX0_14, lX0_1, aX0_1, lX0_2, aX0_2, lX0_3, aX0_3, lX0_4, aX0_4, lX0_5, aX0_5, lX0_6, aX0_6, lX0_7, aX0_7, lX0_8, aX0_8, lX0_9, rX0_9, lX0_10, rX0_10, lX0_11, aX0_11, gX0_n, vX0_apart_0, vX0_apart_1, vX0_apart_2, vX0_apart_3, vX0_apart_6, vX0_apart_9, vX0_apart_10, vX0_apart_13, vX0_apart_14, vX0_apart_15, vX0_apart_16, vX0_apart_19, vX0_apart_20, vX0_apart_23, vX0_apart_24, vX0_apart_25, vX0_apart_26, vX0_apart_29, vX0_apart_30, vX0_apart_31, vX0_apart_32, vX0_apart_33, vX0_apart_34, vX0_apart_35, vX0_apart_36, vX0_apart_37, vX0_apart_38, vX0_apart_41, vX0_apart_42, vX0_apart_43, vX0_apart_44, vX0_apart_45, vX0_apart_46, vX0_apart_47, vX0_apart_48, vX0_apart_49, vX0_apart_50, Nat.reduceAdd, Nat.reduceSub, Nat.reduceBEq, Nat.reduceEqDiff, Nat.reduceLeDiff, Int.reduceAdd, Int.reduceSub, Int.reduceNeg, Int.reduceToNat, Int.reduceLE, Int.reduceLT, Int.zero_add, Nat.zero_add, List.toList_toArray, Option.map_some, Bool.or_false, Bool.or_true, Bool.false_or, Bool.true_or, Bool.or_self, cond_false, cond_true, List.length_cons, List.length_nil, true_and, and_true, forall_eq, forall_eq_apply_imp_iff, and_imp, ite_true, ite_false, reduceIte, true_or, or_true, false_or, or_false, false_and, and_false, eq_self, List.drop_succ_cons, List.drop_zero, List.zip_cons_cons, List.zip_nil_right, List.all_cons, List.all_nil, false_implies, true_implies, Bool.true_eq_false, Bool.false_eq_true, not_false_eq_true, not_true_eq_false, mx_u, mx_u2, mx_b0, mx_b1, Bool.not_eq_false, Bool.not_eq_true, Nat.le_refl, ne_eq, mG, mF, mGv, Int32.add_sub_cancel, spX0_apart, spX0_areTwoThings, spX0_has, mArg, hok]
  refine ⟨fun h => ?_, fun h => ?_⟩
  · have e2 : cApartF σ a0 a1 a2 = (0, σ) := by
      unfold cApartF
      rw [if_neg (fun q => by simp [q.1, q.2.1, q.2.2.1] at h)]
    rw [e2]
    exact ⟨rfl, rfl⟩
  · have h2 : isInF a0 0 (σ.1 2 - 1) = true ∧ isInF a1 0 (σ.1 2 - 1) = true ∧ ¬ a0 = a1 := by
      simp at h
      exact ⟨h.1, h.2.1, of_decide_eq_false h.2.2⟩
    obtain ⟨j, hj, e1, v1, t1⟩ := cThing_ix hok h2.1
    obtain ⟨i, hi, e2, v2, t2⟩ := cThing_ix hok h2.2.1
    have ne : ¬ a1.toNatClampNeg = a0.toNatClampNeg := by
      rw [t1, t2]
      intro q
      exact h2.2.2 (by rw [e1, e2, q])
    refine ⟨v1, fun h3 => by simp [cApartF, h3], fun h3 => ⟨v1, v1, v2, v2, ?_⟩⟩
    simp [cApartF, h2.1, h2.2.1, h2.2.2, h3, ne]
def cDropF (σ : mS) (i : Int32) : Int32 × mS := if isInF i 0 (σ.1 7 - 1) = true then (1, cGoF σ i.toNatClampNeg) else (0, σ)
def spX0_drop : mC := mG 1 false (fun σ _ => cOk σ) (fun σ xs => cDropF σ (mArg xs 0))
set_option maxHeartbeats 8000000 in
set_option maxRecDepth 100000 in
theorem ctX0_drop : mCt hX0 0 15 vwC yX0_drop cX0_drop 2 (some .boolean) 1 spX0_drop := by
  refine mMeet (k := (kX0 [(90, spX0_isBasket), (93, spX0_removeBasket)])) (bl := 1) (own := RX0) (C := RX0) (T := TX0) (ty0 := tyX0) (by decide +kernel) rfl (tbX0 _) (mCal_cons (okX0_90 (by decide)) (mCal_cons (okX0_93 (by decide)) mCal_nil)) (Or.inr (Or.inl ⟨rfl, rfl, rfl⟩)) (by decide) ?_
  intro σ xs hlen hpre X hX
  obtain ⟨a0, rfl⟩ := mx_l1 xs hlen
  change X (0, [some (.ref 0), some (.int a0)], [], σ)
  have hok : cOk σ := hpre
  refine mWalk hX [] 40 ?_
  simp only [mRun, mCut, mAt, mSet, mArgs, mFind, mLdI, mLdA, mStI, mInc, mBin, mDiv, mJ1, mJ2, mN1, mN2, mGet, mPut, mLdE, mStE, mLdR, mKon, mDup, mDup2, mAft, mCaV, mCaS, mRetI, mRetV, fX0_18, fX0_21, fX0_24, fX0_27, fX0_30, fX0_33, fX0_36, fX0_39, fX0_44, fX0_47, fX0_50, fX0_53, fX0_57, fX0_60, fX0_83, oX0_117, cX0_c, nX0_0, vX0_0, vX0_1, nX0_2, vX0_2, nX0_3, vX0_3, vX0_4, vX0_5, vX0_6, nX0_7, vX0_7, vX0_8, vX0_9, vX0_10, vX0_11, vX0_12, vX0_13, vX0_14, lX0_1, aX0_1, lX0_2, aX0_2, lX0_3, aX0_3, lX0_4, aX0_4, lX0_5, aX0_5, lX0_6, aX0_6, lX0_7, aX0_7, lX0_8, aX0_8, lX0_9, rX0_9, lX0_10, rX0_10, lX0_11, aX0_11, gX0_n, vX0_drop_0, vX0_drop_1, vX0_drop_2, vX0_drop_5, vX0_drop_8, vX0_drop_9, vX0_drop_10, vX0_drop_11, vX0_drop_12, vX0_drop_15, vX0_drop_16, Nat.reduceAdd, Nat.reduceSub, Nat.reduceBEq, Nat.reduceEqDiff, Nat.reduceLeDiff, Int.reduceAdd, Int.reduceSub, Int.reduceNeg, Int.reduceToNat, Int.reduceLE, Int.reduceLT, Int.zero_add, Nat.zero_add, List.toList_toArray, Option.map_some, Bool.or_false, Bool.or_true, Bool.false_or, Bool.true_or, Bool.or_self, cond_false, cond_true, List.length_cons, List.length_nil, true_and, and_true, forall_eq, forall_eq_apply_imp_iff, and_imp, ite_true, ite_false, reduceIte, true_or, or_true, false_or, or_false, false_and, and_false, eq_self, List.drop_succ_cons, List.drop_zero, List.zip_cons_cons, List.zip_nil_right, List.all_cons, List.all_nil, false_implies, true_implies, Bool.true_eq_false, Bool.false_eq_true, not_false_eq_true, not_true_eq_false, mx_u, mx_u2, mx_b0, mx_b1, Bool.not_eq_false, Bool.not_eq_true, Nat.le_refl, ne_eq, mG, mF, mGv, Int32.add_sub_cancel, spX0_drop, spX0_isBasket, spX0_removeBasket, mArg, hok]
  refine ⟨fun h => by simp [cDropF, h], fun h => ?_⟩
  obtain ⟨j, hj, rfl, -, -⟩ := cBask_ix hok h
  exact ⟨⟨j, hj, rfl⟩, by simp [cDropF, h]⟩
def cOwn (p : Int32) (s : mS) (i : Nat) : Bool := decide (s.2 5 i = p)
def cForgS (σ : mS) (p : Nat) : mS := cClr ((rmF cGoF (cOwn (nI p)) σ (cBn σ) (cBn σ)).1, up2 (rmF cGoF (cOwn (nI p)) σ (cBn σ) (cBn σ)).2 8 p 0) p (((1 : Int32) <<< (σ.1 2 &&& 31)) - 1)
def cForgetF (σ : mS) (p : Int32) : Int32 × mS := if isInF p 0 7 = true then (nI (rmC cGoF (cOwn p) σ (cBn σ) (cBn σ)), cForgS σ p.toNatClampNeg) else (-1, σ)
def spX0_forget : mC := mG 1 false (fun σ _ => cOk σ) (fun σ xs => cForgetF σ (mArg xs 0))
set_option maxHeartbeats 8000000 in
set_option maxRecDepth 100000 in
theorem ctX0_forget : mCt hX0 0 15 vwC yX0_forget cX0_forget 4 (some .int) 2 spX0_forget := by
  refine mMeet (k := (kX0 [(77, spX0_isPerson), (93, spX0_removeBasket), (97, spX0_allThings), (86, spX0_clearShown)])) (bl := 0) (own := RX0) (C := RX0) (T := TX0) (ty0 := tyX0) (by decide +kernel) rfl (tbX0 _) (mCal_cons (okX0_77 (by decide)) (mCal_cons (okX0_93 (by decide)) (mCal_cons (okX0_97 (by decide)) (mCal_cons (okX0_86 (by decide)) mCal_nil)))) (Or.inl ⟨rfl, rfl, rfl⟩) (by decide) ?_
  intro σ xs hlen hpre X hX
  obtain ⟨a0, rfl⟩ := mx_l1 xs hlen
  change X (0, [some (.ref 0), some (.int a0), none, none], [], σ)
  have hok : cOk σ := hpre
  obtain ⟨hb, hn⟩ := hok.2.1
  by_cases hp : isInF a0 0 7 = true
  · obtain ⟨p, hp1, rfl, hp2, hp3⟩ := mPers_ix hp
    have loop1 := mFor (X := X) (cBn σ) (fun k => (18, [some (.ref 0), some (.int (nI p)), some (.int (nI (cBn σ))), some (.int (nI (cBn σ - k) - 1))], [], rmF cGoF (cOwn (nI p)) σ (cBn σ) k)) ?_ ?_ 0 (Nat.zero_le _)
    · refine mWalk hX [18] 40 ?_
      simp only [mRun, mCut, mAt, mSet, mArgs, mFind, mLdI, mLdA, mStI, mInc, mBin, mDiv, mJ1, mJ2, mN1, mN2, mGet, mPut, mLdE, mStE, mLdR, mKon, mDup, mDup2, mAft, mCaV, mCaS, mRetI, mRetV, fX0_18, fX0_21, fX0_24, fX0_27, fX0_30, fX0_33, fX0_36, fX0_39, fX0_44, fX0_47, fX0_50, fX0_53, fX0_57, fX0_60, fX0_83, oX0_117, cX0_c, nX0_0, vX0_0, vX0_1, nX0_2, vX0_2, nX0_3, vX0_3, vX0_4, vX0_5, vX0_6, nX0_7, vX0_7, vX0_8, vX0_9, vX0_10, vX0_11, vX0_12, vX0_13, vX0_14, lX0_1, aX0_1, lX0_2, aX0_2, lX0_3, aX0_3, lX0_4, aX0_4, lX0_5, aX0_5, lX0_6, aX0_6, lX0_7, aX0_7, lX0_8, aX0_8, lX0_9, rX0_9, lX0_10, rX0_10, lX0_11, aX0_11, gX0_n, vX0_forget_0, vX0_forget_1, vX0_forget_4, vX0_forget_7, vX0_forget_8, vX0_forget_9, vX0_forget_10, vX0_forget_13, vX0_forget_14, vX0_forget_15, vX0_forget_16, vX0_forget_17, vX0_forget_18, vX0_forget_19, vX0_forget_22, vX0_forget_23, vX0_forget_26, vX0_forget_27, vX0_forget_28, vX0_forget_29, vX0_forget_32, vX0_forget_33, vX0_forget_34, vX0_forget_37, vX0_forget_40, vX0_forget_43, vX0_forget_44, vX0_forget_47, vX0_forget_48, vX0_forget_49, vX0_forget_50, vX0_forget_51, vX0_forget_52, vX0_forget_53, vX0_forget_56, vX0_forget_59, vX0_forget_60, vX0_forget_61, vX0_forget_64, vX0_forget_65, Nat.reduceAdd, Nat.reduceSub, Nat.reduceBEq, Nat.reduceEqDiff, Nat.reduceLeDiff, Int.reduceAdd, Int.reduceSub, Int.reduceNeg, Int.reduceToNat, Int.reduceLE, Int.reduceLT, Int.zero_add, Nat.zero_add, List.toList_toArray, Option.map_some, Bool.or_false, Bool.or_true, Bool.false_or, Bool.true_or, Bool.or_self, cond_false, cond_true, List.length_cons, List.length_nil, true_and, and_true, forall_eq, forall_eq_apply_imp_iff, and_imp, ite_true, ite_false, reduceIte, true_or, or_true, false_or, or_false, false_and, and_false, eq_self, List.drop_succ_cons, List.drop_zero, List.zip_cons_cons, List.zip_nil_right, List.all_cons, List.all_nil, false_implies, true_implies, Bool.true_eq_false, Bool.false_eq_true, not_false_eq_true, not_true_eq_false, mx_u, mx_u2, mx_b0, mx_b1, Bool.not_eq_false, Bool.not_eq_true, Nat.le_refl, ne_eq, mG, mF, mGv, Int32.add_sub_cancel, spX0_forget, spX0_isPerson, spX0_removeBasket, spX0_allThings, spX0_clearShown, mArg, hp, hb]
      exact loop1
    · obtain ⟨r1, r2, r3, r4, r5⟩ := crm_ok hok (cOwn (nI p)) (cBn σ) (Nat.le_refl _)
      have e2 := r4 2 (by decide)
      obtain ⟨st2, hst⟩ : ∃ z, z = rmF cGoF (cOwn (nI p)) σ (cBn σ) (cBn σ) := ⟨_, rfl⟩
      rw [← hst] at r1 r2 r4 r5 e2 ⊢
      have q1 : (σ.1 2 = nI (cTn (st2.1, up2 st2.2 8 p 0))) = True := eq_true (e2 ▸ r1.1.1)
      have q2 : (cTn (st2.1, up2 st2.2 8 p 0) ≤ 12) = True := eq_true r1.1.2
      have hb2 : nI (cBn σ) - st2.1 7 = nI (rmC cGoF (cOwn (nI p)) σ (cBn σ) (cBn σ)) := by
        rw [r1.2.1.1, pk_sub (by omega)]
        congr 1
        omega
      have e3 : cForgetF σ (nI p) = (nI (rmC cGoF (cOwn (nI p)) σ (cBn σ) (cBn σ)), cClr (st2.1, up2 st2.2 8 p 0) p (((1 : Int32) <<< (σ.1 2 &&& 31)) - 1)) := by
        unfold cForgetF cForgS
        rw [if_pos hp, hp3, ← hst]
      have e7 : (cClr (st2.1, up2 st2.2 8 p 0) p (((1 : Int32) <<< (σ.1 2 &&& 31)) - 1)).1 7 = st2.1 7 := rfl
      refine mWalk hX [18] 40 ?_
      have c1 := (dn_neg hn (Nat.le_refl (cBn σ))).mpr rfl
      simp only [mRun, mCut, mAt, mSet, mArgs, mFind, mLdI, mLdA, mStI, mInc, mBin, mDiv, mJ1, mJ2, mN1, mN2, mGet, mPut, mLdE, mStE, mLdR, mKon, mDup, mDup2, mAft, mCaV, mCaS, mRetI, mRetV, fX0_18, fX0_21, fX0_24, fX0_27, fX0_30, fX0_33, fX0_36, fX0_39, fX0_44, fX0_47, fX0_50, fX0_53, fX0_57, fX0_60, fX0_83, oX0_117, cX0_c, nX0_0, vX0_0, vX0_1, nX0_2, vX0_2, nX0_3, vX0_3, vX0_4, vX0_5, vX0_6, nX0_7, vX0_7, vX0_8, vX0_9, vX0_10, vX0_11, vX0_12, vX0_13, vX0_14, lX0_1, aX0_1, lX0_2, aX0_2, lX0_3, aX0_3, lX0_4, aX0_4, lX0_5, aX0_5, lX0_6, aX0_6, lX0_7, aX0_7, lX0_8, aX0_8, lX0_9, rX0_9, lX0_10, rX0_10, lX0_11, aX0_11, gX0_n, vX0_forget_0, vX0_forget_1, vX0_forget_4, vX0_forget_7, vX0_forget_8, vX0_forget_9, vX0_forget_10, vX0_forget_13, vX0_forget_14, vX0_forget_15, vX0_forget_16, vX0_forget_17, vX0_forget_18, vX0_forget_19, vX0_forget_22, vX0_forget_23, vX0_forget_26, vX0_forget_27, vX0_forget_28, vX0_forget_29, vX0_forget_32, vX0_forget_33, vX0_forget_34, vX0_forget_37, vX0_forget_40, vX0_forget_43, vX0_forget_44, vX0_forget_47, vX0_forget_48, vX0_forget_49, vX0_forget_50, vX0_forget_51, vX0_forget_52, vX0_forget_53, vX0_forget_56, vX0_forget_59, vX0_forget_60, vX0_forget_61, vX0_forget_64, vX0_forget_65, Nat.reduceAdd, Nat.reduceSub, Nat.reduceBEq, Nat.reduceEqDiff, Nat.reduceLeDiff, Int.reduceAdd, Int.reduceSub, Int.reduceNeg, Int.reduceToNat, Int.reduceLE, Int.reduceLT, Int.zero_add, Nat.zero_add, List.toList_toArray, Option.map_some, Bool.or_false, Bool.or_true, Bool.false_or, Bool.true_or, Bool.or_self, cond_false, cond_true, List.length_cons, List.length_nil, true_and, and_true, forall_eq, forall_eq_apply_imp_iff, and_imp, ite_true, ite_false, reduceIte, true_or, or_true, false_or, or_false, false_and, and_false, eq_self, List.drop_succ_cons, List.drop_zero, List.zip_cons_cons, List.zip_nil_right, List.all_cons, List.all_nil, false_implies, true_implies, Bool.true_eq_false, Bool.false_eq_true, not_false_eq_true, not_true_eq_false, mx_u, mx_u2, mx_b0, mx_b1, Bool.not_eq_false, Bool.not_eq_true, Nat.le_refl, ne_eq, mG, mF, mGv, Int32.add_sub_cancel, spX0_forget, spX0_isPerson, spX0_removeBasket, spX0_allThings, spX0_clearShown, mArg, c1, hp, hp2, hp3, q1, q2, e2, e3, e7, hb2]
    · intro k hk ih
      obtain ⟨r1, r2, r3, r4, r5⟩ := crm_ok hok (cOwn (nI p)) k (Nat.le_of_lt hk)
      have c1 : ¬ nI (cBn σ - 1 - k) < 0 := nI_pos (by omega)
      obtain ⟨v1, e1⟩ := nI_i (j := cBn σ - 1 - k) (n := 60) (by omega) (by omega)
      have hpr : cOk (rmF cGoF (cOwn (nI p)) σ (cBn σ) k) ∧ ∃ i, i < cBn (rmF cGoF (cOwn (nI p)) σ (cBn σ) k) ∧ nI (cBn σ - 1 - k) = nI i := ⟨r1, cBn σ - 1 - k, by omega, rfl⟩
      refine mWalk hX [18] 40 ?_
      rw [dn_at hk]
      simp only [mRun, mCut, mAt, mSet, mArgs, mFind, mLdI, mLdA, mStI, mInc, mBin, mDiv, mJ1, mJ2, mN1, mN2, mGet, mPut, mLdE, mStE, mLdR, mKon, mDup, mDup2, mAft, mCaV, mCaS, mRetI, mRetV, fX0_18, fX0_21, fX0_24, fX0_27, fX0_30, fX0_33, fX0_36, fX0_39, fX0_44, fX0_47, fX0_50, fX0_53, fX0_57, fX0_60, fX0_83, oX0_117, cX0_c, nX0_0, vX0_0, vX0_1, nX0_2, vX0_2, nX0_3, vX0_3, vX0_4, vX0_5, vX0_6, nX0_7, vX0_7, vX0_8, vX0_9, vX0_10, vX0_11, vX0_12, vX0_13, vX0_14, lX0_1, aX0_1, lX0_2, aX0_2, lX0_3, aX0_3, lX0_4, aX0_4, lX0_5, aX0_5, lX0_6, aX0_6, lX0_7, aX0_7, lX0_8, aX0_8, lX0_9, rX0_9, lX0_10, rX0_10, lX0_11, aX0_11, gX0_n, vX0_forget_0, vX0_forget_1, vX0_forget_4, vX0_forget_7, vX0_forget_8, vX0_forget_9, vX0_forget_10, vX0_forget_13, vX0_forget_14, vX0_forget_15, vX0_forget_16, vX0_forget_17, vX0_forget_18, vX0_forget_19, vX0_forget_22, vX0_forget_23, vX0_forget_26, vX0_forget_27, vX0_forget_28, vX0_forget_29, vX0_forget_32, vX0_forget_33, vX0_forget_34, vX0_forget_37, vX0_forget_40, vX0_forget_43, vX0_forget_44, vX0_forget_47, vX0_forget_48, vX0_forget_49, vX0_forget_50, vX0_forget_51, vX0_forget_52, vX0_forget_53, vX0_forget_56, vX0_forget_59, vX0_forget_60, vX0_forget_61, vX0_forget_64, vX0_forget_65, Nat.reduceAdd, Nat.reduceSub, Nat.reduceBEq, Nat.reduceEqDiff, Nat.reduceLeDiff, Int.reduceAdd, Int.reduceSub, Int.reduceNeg, Int.reduceToNat, Int.reduceLE, Int.reduceLT, Int.zero_add, Nat.zero_add, List.toList_toArray, Option.map_some, Bool.or_false, Bool.or_true, Bool.false_or, Bool.true_or, Bool.or_self, cond_false, cond_true, List.length_cons, List.length_nil, true_and, and_true, forall_eq, forall_eq_apply_imp_iff, and_imp, ite_true, ite_false, reduceIte, true_or, or_true, false_or, or_false, false_and, and_false, eq_self, List.drop_succ_cons, List.drop_zero, List.zip_cons_cons, List.zip_nil_right, List.all_cons, List.all_nil, false_implies, true_implies, Bool.true_eq_false, Bool.false_eq_true, not_false_eq_true, not_true_eq_false, mx_u, mx_u2, mx_b0, mx_b1, Bool.not_eq_false, Bool.not_eq_true, Nat.le_refl, ne_eq, mG, mF, mGv, Int32.add_sub_cancel, spX0_forget, spX0_isPerson, spX0_removeBasket, spX0_allThings, spX0_clearShown, mArg, c1, v1, e1, hpr, nI_1, dn_s]
      refine ⟨fun h1 => ?_, fun h1 => ?_⟩
      · have h2 : cOwn (nI p) (rmF cGoF (cOwn (nI p)) σ (cBn σ) k) (cBn σ - 1 - k) = true := decide_eq_true h1
        simpa [rmF, h2] using ih
      · have h2 : cOwn (nI p) (rmF cGoF (cOwn (nI p)) σ (cBn σ) k) (cBn σ - 1 - k) = false := decide_eq_false h1
        simpa [rmF, h2] using ih
  · refine mWalk hX [] 40 ?_
    simp only [mRun, mCut, mAt, mSet, mArgs, mFind, mLdI, mLdA, mStI, mInc, mBin, mDiv, mJ1, mJ2, mN1, mN2, mGet, mPut, mLdE, mStE, mLdR, mKon, mDup, mDup2, mAft, mCaV, mCaS, mRetI, mRetV, fX0_18, fX0_21, fX0_24, fX0_27, fX0_30, fX0_33, fX0_36, fX0_39, fX0_44, fX0_47, fX0_50, fX0_53, fX0_57, fX0_60, fX0_83, oX0_117, cX0_c, nX0_0, vX0_0, vX0_1, nX0_2, vX0_2, nX0_3, vX0_3, vX0_4, vX0_5, vX0_6, nX0_7, vX0_7, vX0_8, vX0_9, vX0_10, vX0_11, vX0_12, vX0_13, vX0_14, lX0_1, aX0_1, lX0_2, aX0_2, lX0_3, aX0_3, lX0_4, aX0_4, lX0_5, aX0_5, lX0_6, aX0_6, lX0_7, aX0_7, lX0_8, aX0_8, lX0_9, rX0_9, lX0_10, rX0_10, lX0_11, aX0_11, gX0_n, vX0_forget_0, vX0_forget_1, vX0_forget_4, vX0_forget_7, vX0_forget_8, vX0_forget_9, vX0_forget_10, vX0_forget_13, vX0_forget_14, vX0_forget_15, vX0_forget_16, vX0_forget_17, vX0_forget_18, vX0_forget_19, vX0_forget_22, vX0_forget_23, vX0_forget_26, vX0_forget_27, vX0_forget_28, vX0_forget_29, vX0_forget_32, vX0_forget_33, vX0_forget_34, vX0_forget_37, vX0_forget_40, vX0_forget_43, vX0_forget_44, vX0_forget_47, vX0_forget_48, vX0_forget_49, vX0_forget_50, vX0_forget_51, vX0_forget_52, vX0_forget_53, vX0_forget_56, vX0_forget_59, vX0_forget_60, vX0_forget_61, vX0_forget_64, vX0_forget_65, Nat.reduceAdd, Nat.reduceSub, Nat.reduceBEq, Nat.reduceEqDiff, Nat.reduceLeDiff, Int.reduceAdd, Int.reduceSub, Int.reduceNeg, Int.reduceToNat, Int.reduceLE, Int.reduceLT, Int.zero_add, Nat.zero_add, List.toList_toArray, Option.map_some, Bool.or_false, Bool.or_true, Bool.false_or, Bool.true_or, Bool.or_self, cond_false, cond_true, List.length_cons, List.length_nil, true_and, and_true, forall_eq, forall_eq_apply_imp_iff, and_imp, ite_true, ite_false, reduceIte, true_or, or_true, false_or, or_false, false_and, and_false, eq_self, List.drop_succ_cons, List.drop_zero, List.zip_cons_cons, List.zip_nil_right, List.all_cons, List.all_nil, false_implies, true_implies, Bool.true_eq_false, Bool.false_eq_true, not_false_eq_true, not_true_eq_false, mx_u, mx_u2, mx_b0, mx_b1, Bool.not_eq_false, Bool.not_eq_true, Nat.le_refl, ne_eq, mG, mF, mGv, Int32.add_sub_cancel, spX0_forget, spX0_isPerson, spX0_removeBasket, spX0_allThings, spX0_clearShown, mArg, hp]
    simp [cForgetF, hp]
def cDayS (σ : mS) : mS := (upd σ.1 0 (σ.1 0 + 1), σ.2)
def cDayF (σ : mS) : Int32 × mS := if σ.1 0 = 9999 then (-1, σ) else (σ.1 0 + 1, rmF cGoF cOld (cDayS σ) (cBn σ) (cBn σ))
theorem cDayS_ok {σ : mS} (h : cOk σ) (h9 : ¬ σ.1 0 = 9999) : cOk (cDayS σ) := by
  obtain ⟨h1, h2, h3, h4, ⟨d, hd, hde⟩, h6, h7⟩ := h
  refine ⟨h1, h2, h3, h4, ⟨d + 1, ?_, ?_⟩, h6, h7⟩
  · have : ¬ d = 9999 := fun q => h9 (by rw [hde, q]; rfl)
    omega
  · show upd σ.1 0 (σ.1 0 + 1) 0 = _
    rw [mx_u, if_pos rfl, hde, nI_1]
def spX0_day : mC := mG 0 false (fun σ _ => cOk σ) (fun σ _ => cDayF σ)
set_option maxHeartbeats 8000000 in
set_option maxRecDepth 100000 in
theorem ctX0_day : mCt hX0 0 15 vwC yX0_day cX0_day 1 (some .int) 2 spX0_day := by
  refine mMeet (k := (kX0 [(101, spX0_removeOldBaskets)])) (bl := 0) (own := RX0) (C := RX0) (T := TX0) (ty0 := tyX0) (by decide +kernel) rfl (tbX0 _) (mCal_cons (okX0_101 (by decide)) mCal_nil) (Or.inl ⟨rfl, rfl, rfl⟩) (by decide) ?_
  intro σ xs hlen hpre X hX
  obtain rfl := mx_l0 xs hlen
  change X (0, [some (.ref 0)], [], σ)
  have hok : cOk σ := hpre
  obtain ⟨d, hd, hde⟩ := hok.2.2.2.2.1
  by_cases h9 : σ.1 0 = 9999
  · have c1 : ¬ σ.1 0 < 9999 := by rw [h9]; exact Int32.lt_irrefl
    refine mWalk hX [] 40 ?_
    simp only [mRun, mCut, mAt, mSet, mArgs, mFind, mLdI, mLdA, mStI, mInc, mBin, mDiv, mJ1, mJ2, mN1, mN2, mGet, mPut, mLdE, mStE, mLdR, mKon, mDup, mDup2, mAft, mCaV, mCaS, mRetI, mRetV, fX0_18, fX0_21, fX0_24, fX0_27, fX0_30, fX0_33, fX0_36, fX0_39, fX0_44, fX0_47, fX0_50, fX0_53, fX0_57, fX0_60, fX0_83, oX0_117, cX0_c, nX0_0, vX0_0, vX0_1, nX0_2, vX0_2, nX0_3, vX0_3, vX0_4, vX0_5, vX0_6, nX0_7, vX0_7, vX0_8, vX0_9, vX0_10, vX0_11, vX0_12, vX0_13, vX0_14, lX0_1, aX0_1, lX0_2, aX0_2, lX0_3, aX0_3, lX0_4, aX0_4, lX0_5, aX0_5, lX0_6, aX0_6, lX0_7, aX0_7, lX0_8, aX0_8, lX0_9, rX0_9, lX0_10, rX0_10, lX0_11, aX0_11, gX0_n, vX0_day_0, vX0_day_1, vX0_day_4, vX0_day_7, vX0_day_10, vX0_day_11, vX0_day_12, vX0_day_13, vX0_day_14, vX0_day_17, vX0_day_18, vX0_day_19, vX0_day_22, vX0_day_23, vX0_day_26, vX0_day_27, vX0_day_30, Nat.reduceAdd, Nat.reduceSub, Nat.reduceBEq, Nat.reduceEqDiff, Nat.reduceLeDiff, Int.reduceAdd, Int.reduceSub, Int.reduceNeg, Int.reduceToNat, Int.reduceLE, Int.reduceLT, Int.zero_add, Nat.zero_add, List.toList_toArray, Option.map_some, Bool.or_false, Bool.or_true, Bool.false_or, Bool.true_or, Bool.or_self, cond_false, cond_true, List.length_cons, List.length_nil, true_and, and_true, forall_eq, forall_eq_apply_imp_iff, and_imp, ite_true, ite_false, reduceIte, true_or, or_true, false_or, or_false, false_and, and_false, eq_self, List.drop_succ_cons, List.drop_zero, List.zip_cons_cons, List.zip_nil_right, List.all_cons, List.all_nil, false_implies, true_implies, Bool.true_eq_false, Bool.false_eq_true, not_false_eq_true, not_true_eq_false, mx_u, mx_u2, mx_b0, mx_b1, Bool.not_eq_false, Bool.not_eq_true, Nat.le_refl, ne_eq, mG, mF, mGv, Int32.add_sub_cancel, spX0_day, spX0_removeOldBaskets, mArg, c1]
    simp [cDayF, h9]
  · have c1 : σ.1 0 < 9999 := by
      have : ¬ d = 9999 := fun q => h9 (by rw [hde, q]; rfl)
      rw [hde]
      exact nI_lt (b := 9999) (by omega) (by omega)
    have ho2 : cOk (upd σ.1 0 (σ.1 0 + 1), σ.2) := cDayS_ok hok h9
    obtain ⟨-, -, -, r4, -⟩ := crm_ok ho2 cOld (cBn σ) (Nat.le_refl _)
    have e1 : cBn (upd σ.1 0 (σ.1 0 + 1), σ.2) = cBn σ := rfl
    rw [e1] at r4
    have e2 := r4 0 (by decide)
    have e3 : cDayF σ = (σ.1 0 + 1, rmF cGoF cOld (upd σ.1 0 (σ.1 0 + 1), σ.2) (cBn σ) (cBn σ)) := by unfold cDayF; rw [if_neg h9]; rfl
    refine mWalk hX [] 40 ?_
    simp only [mRun, mCut, mAt, mSet, mArgs, mFind, mLdI, mLdA, mStI, mInc, mBin, mDiv, mJ1, mJ2, mN1, mN2, mGet, mPut, mLdE, mStE, mLdR, mKon, mDup, mDup2, mAft, mCaV, mCaS, mRetI, mRetV, fX0_18, fX0_21, fX0_24, fX0_27, fX0_30, fX0_33, fX0_36, fX0_39, fX0_44, fX0_47, fX0_50, fX0_53, fX0_57, fX0_60, fX0_83, oX0_117, cX0_c, nX0_0, vX0_0, vX0_1, nX0_2, vX0_2, nX0_3, vX0_3, vX0_4, vX0_5, vX0_6, nX0_7, vX0_7, vX0_8, vX0_9, vX0_10, vX0_11, vX0_12, vX0_13, vX0_14, lX0_1, aX0_1, lX0_2, aX0_2, lX0_3, aX0_3, lX0_4, aX0_4, lX0_5, aX0_5, lX0_6, aX0_6, lX0_7, aX0_7, lX0_8, aX0_8, lX0_9, rX0_9, lX0_10, rX0_10, lX0_11, aX0_11, gX0_n, vX0_day_0, vX0_day_1, vX0_day_4, vX0_day_7, vX0_day_10, vX0_day_11, vX0_day_12, vX0_day_13, vX0_day_14, vX0_day_17, vX0_day_18, vX0_day_19, vX0_day_22, vX0_day_23, vX0_day_26, vX0_day_27, vX0_day_30, Nat.reduceAdd, Nat.reduceSub, Nat.reduceBEq, Nat.reduceEqDiff, Nat.reduceLeDiff, Int.reduceAdd, Int.reduceSub, Int.reduceNeg, Int.reduceToNat, Int.reduceLE, Int.reduceLT, Int.zero_add, Nat.zero_add, List.toList_toArray, Option.map_some, Bool.or_false, Bool.or_true, Bool.false_or, Bool.true_or, Bool.or_self, cond_false, cond_true, List.length_cons, List.length_nil, true_and, and_true, forall_eq, forall_eq_apply_imp_iff, and_imp, ite_true, ite_false, reduceIte, true_or, or_true, false_or, or_false, false_and, and_false, eq_self, List.drop_succ_cons, List.drop_zero, List.zip_cons_cons, List.zip_nil_right, List.all_cons, List.all_nil, false_implies, true_implies, Bool.true_eq_false, Bool.false_eq_true, not_false_eq_true, not_true_eq_false, mx_u, mx_u2, mx_b0, mx_b1, Bool.not_eq_false, Bool.not_eq_true, Nat.le_refl, ne_eq, mG, mF, mGv, Int32.add_sub_cancel, spX0_day, spX0_removeOldBaskets, mArg, c1, ho2, e1, e2, e3]
