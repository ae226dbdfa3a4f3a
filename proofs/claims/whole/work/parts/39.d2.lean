def cListF (σ : mS) (p k w : Int32) : Int32 × mS := if isInF p 0 7 = true ∧ isInF k 1 5 = true ∧ isInF w 0 1 = true then ((if w = 0 then (cBst σ p k (2 ^ cPop (cMay σ p) - 1)).2.1 else sumF ((cBlp σ p).2 11) (cTn σ) (cBst σ p k (2 ^ cPop (cMay σ p) - 1)).2.1), cBlp σ p) else (-1000001, σ)
def spX0_list : mC := mG 3 false (fun σ _ => cOk σ) (fun σ xs => cListF σ (mArg xs 0) (mArg xs 1) (mArg xs 2))
set_option maxHeartbeats 8000000 in
set_option maxRecDepth 100000 in
theorem ctX0_list : mCt hX0 0 15 vwC yX0_list cX0_list 5 (some .int) 6 spX0_list := by
  refine mMeet (k := (kX0 [(134, spX0_canList), (137, spX0_bestList), (140, spX0_sumOfPoints)])) (bl := 0) (own := RX0) (C := RX0) (T := TX0) (ty0 := tyX0) (by decide +kernel) rfl (tbX0 _) (mCal_cons (okX0_134 (by decide)) (mCal_cons (okX0_137 (by decide)) (mCal_cons (okX0_140 (by decide)) mCal_nil))) (Or.inl ⟨rfl, rfl, rfl⟩) (by decide) ?_
  intro σ xs hlen hpre X hX
  obtain ⟨a0, a1, a2, rfl⟩ := mx_l3 xs hlen
  change X (0, [some (.ref 0), some (.int a0), some (.int a1), some (.int a2), none], [], σ)
  have hok : cOk σ := hpre
  by_cases hpk : isInF a0 0 7 = true ∧ isInF a1 1 5 = true
  · have hp := hpk.1
    have hk5 := hpk.2
    by_cases hw : isInF a2 0 1 = true
    · have hw2 := hw
      unfold isInF at hw2
      rw [Bool.and_eq_true, decide_eq_true_eq, decide_eq_true_eq] at hw2
      have c0 : ¬ a2 < 0 := Int32.not_lt.mpr hw2.1
      have c1 := hw2.2
      have hE : cEq σ (cBlp σ a0) := wcG_eq _ _ _ _
      have hok2 := cEq_ok hE hok
      have ht2 := cEq_tn hE
      have e3 : cListF σ a0 a1 a2 = ((if a2 = 0 then (cBst σ a0 a1 (2 ^ cPop (cMay σ a0) - 1)).2.1 else sumF ((cBlp σ a0).2 11) (cTn σ) (cBst σ a0 a1 (2 ^ cPop (cMay σ a0) - 1)).2.1), cBlp σ a0) := by unfold cListF; rw [if_pos ⟨hpk.1, hpk.2, hw⟩]
      refine mWalk hX [] 60 ?_
      simp only [mRun, mCut, mAt, mSet, mArgs, mFind, mLdI, mLdA, mStI, mInc, mBin, mDiv, mJ1, mJ2, mN1, mN2, mGet, mPut, mLdE, mStE, mLdR, mKon, mDup, mDup2, mAft, mCaV, mCaS, mRetI, mRetV, fX0_18, fX0_21, fX0_24, fX0_27, fX0_30, fX0_33, fX0_36, fX0_39, fX0_44, fX0_47, fX0_50, fX0_53, fX0_57, fX0_60, fX0_83, oX0_117, cX0_c, nX0_0, vX0_0, vX0_1, nX0_2, vX0_2, nX0_3, vX0_3, vX0_4, vX0_5, vX0_6, nX0_7, vX0_7, vX0_8, vX0_9, vX0_10, vX0_11, vX0_12, vX0_13, vX0_14, lX0_1, aX0_1, lX0_2, aX0_2, lX0_3, aX0_3, lX0_4, aX0_4, lX0_5, aX0_5, lX0_6, aX0_6, lX0_7, aX0_7, lX0_8, aX0_8, lX0_9, rX0_9, lX0_10, rX0_10, lX0_11, aX0_11, gX0_n, vX0_list_0, vX0_list_1, vX0_list_2, vX0_list_3, vX0_list_6, vX0_list_9, vX0_list_10, vX0_list_13, vX0_list_14, vX0_list_15, vX0_list_18, vX0_list_20, vX0_list_21, vX0_list_22, vX0_list_23, vX0_list_24, vX0_list_27, vX0_list_29, vX0_list_30, vX0_list_33, vX0_list_35, vX0_list_38, vX0_list_39, vX0_list_41, vX0_list_44, Nat.reduceAdd, Nat.reduceSub, Nat.reduceBEq, Nat.reduceEqDiff, Nat.reduceLeDiff, Int.reduceAdd, Int.reduceSub, Int.reduceNeg, Int.reduceToNat, Int.reduceLE, Int.reduceLT, Int.zero_add, Nat.zero_add, List.toList_toArray, Option.map_some, Bool.or_false, Bool.or_true, Bool.false_or, Bool.true_or, Bool.or_self, cond_false, cond_true, List.length_cons, List.length_nil, true_and, and_true, forall_eq, forall_eq_apply_imp_iff, and_imp, ite_true, ite_false, reduceIte, true_or, or_true, false_or, or_false, false_and, and_false, eq_self, List.drop_succ_cons, List.drop_zero, List.zip_cons_cons, List.zip_nil_right, List.all_cons, List.all_nil, false_implies, true_implies, Bool.true_eq_false, Bool.false_eq_true, not_false_eq_true, not_true_eq_false, mx_u, mx_u2, mx_b0, mx_b1, Bool.not_eq_false, Bool.not_eq_true, Nat.le_refl, ne_eq, mG, mF, mGv, Int32.add_sub_cancel, spX0_list, spX0_canList, spX0_bestList, spX0_sumOfPoints, mArg, hok, hp, hk5, Bool.and_self, c0, c1, hok2, ht2, e3]
      exact ⟨fun h => (if_pos h).symm, fun h => (if_neg h).symm⟩
    · have e3 : cListF σ a0 a1 a2 = (-1000001, σ) := by unfold cListF; rw [if_neg (fun q => hw q.2.2)]
      refine mWalk hX [21] 60 ?_
      simp only [mRun, mCut, mAt, mSet, mArgs, mFind, mLdI, mLdA, mStI, mInc, mBin, mDiv, mJ1, mJ2, mN1, mN2, mGet, mPut, mLdE, mStE, mLdR, mKon, mDup, mDup2, mAft, mCaV, mCaS, mRetI, mRetV, fX0_18, fX0_21, fX0_24, fX0_27, fX0_30, fX0_33, fX0_36, fX0_39, fX0_44, fX0_47, fX0_50, fX0_53, fX0_57, fX0_60, fX0_83, oX0_117, cX0_c, nX0_0, vX0_0, vX0_1, nX0_2, vX0_2, nX0_3, vX0_3, vX0_4, vX0_5, vX0_6, nX0_7, vX0_7, vX0_8, vX0_9, vX0_10, vX0_11, vX0_12, vX0_13, vX0_14, lX0_1, aX0_1, lX0_2, aX0_2, lX0_3, aX0_3, lX0_4, aX0_4, lX0_5, aX0_5, lX0_6, aX0_6, lX0_7, aX0_7, lX0_8, aX0_8, lX0_9, rX0_9, lX0_10, rX0_10, lX0_11, aX0_11, gX0_n, vX0_list_0, vX0_list_1, vX0_list_2, vX0_list_3, vX0_list_6, vX0_list_9, vX0_list_10, vX0_list_13, vX0_list_14, vX0_list_15, vX0_list_18, vX0_list_20, vX0_list_21, vX0_list_22, vX0_list_23, vX0_list_24, vX0_list_27, vX0_list_29, vX0_list_30, vX0_list_33, vX0_list_35, vX0_list_38, vX0_list_39, vX0_list_41, vX0_list_44, Nat.reduceAdd, Nat.reduceSub, Nat.reduceBEq, Nat.reduceEqDiff, Nat.reduceLeDiff, Int.reduceAdd, Int.reduceSub, Int.reduceNeg, Int.reduceToNat, Int.reduceLE, Int.reduceLT, Int.zero_add, Nat.zero_add, List.toList_toArray, Option.map_some, Bool.or_false, Bool.or_true, Bool.false_or, Bool.true_or, Bool.or_self, cond_false, cond_true, List.length_cons, List.length_nil, true_and, and_true, forall_eq, forall_eq_apply_imp_iff, and_imp, ite_true, ite_false, reduceIte, true_or, or_true, false_or, or_false, false_and, and_false, eq_self, List.drop_succ_cons, List.drop_zero, List.zip_cons_cons, List.zip_nil_right, List.all_cons, List.all_nil, false_implies, true_implies, Bool.true_eq_false, Bool.false_eq_true, not_false_eq_true, not_true_eq_false, mx_u, mx_u2, mx_b0, mx_b1, Bool.not_eq_false, Bool.not_eq_true, Nat.le_refl, ne_eq, mG, mF, mGv, Int32.add_sub_cancel, spX0_list, spX0_canList, spX0_bestList, spX0_sumOfPoints, mArg, hp, hk5, Bool.and_self, e3]
      refine ⟨fun _ => trivial, fun h1 => ⟨fun h2 => ?_, fun _ => trivial⟩⟩
      refine absurd ?_ hw
      unfold isInF
      simp [Int32.not_lt.mp h1, h2]
  · have e3 : cListF σ a0 a1 a2 = (-1000001, σ) := by unfold cListF; rw [if_neg (fun q => hpk ⟨q.1, q.2.1⟩)]
    refine mWalk hX [21] 60 ?_
    simp only [mRun, mCut, mAt, mSet, mArgs, mFind, mLdI, mLdA, mStI, mInc, mBin, mDiv, mJ1, mJ2, mN1, mN2, mGet, mPut, mLdE, mStE, mLdR, mKon, mDup, mDup2, mAft, mCaV, mCaS, mRetI, mRetV, fX0_18, fX0_21, fX0_24, fX0_27, fX0_30, fX0_33, fX0_36, fX0_39, fX0_44, fX0_47, fX0_50, fX0_53, fX0_57, fX0_60, fX0_83, oX0_117, cX0_c, nX0_0, vX0_0, vX0_1, nX0_2, vX0_2, nX0_3, vX0_3, vX0_4, vX0_5, vX0_6, nX0_7, vX0_7, vX0_8, vX0_9, vX0_10, vX0_11, vX0_12, vX0_13, vX0_14, lX0_1, aX0_1, lX0_2, aX0_2, lX0_3, aX0_3, lX0_4, aX0_4, lX0_5, aX0_5, lX0_6, aX0_6, lX0_7, aX0_7, lX0_8, aX0_8, lX0_9, rX0_9, lX0_10, rX0_10, lX0_11, aX0_11, gX0_n, vX0_list_0, vX0_list_1, vX0_list_2, vX0_list_3, vX0_list_6, vX0_list_9, vX0_list_10, vX0_list_13, vX0_list_14, vX0_list_15, vX0_list_18, vX0_list_20, vX0_list_21, vX0_list_22, vX0_list_23, vX0_list_24, vX0_list_27, vX0_list_29, vX0_list_30, vX0_list_33, vX0_list_35, vX0_list_38, vX0_list_39, vX0_list_41, vX0_list_44, Nat.reduceAdd, Nat.reduceSub, Nat.reduceBEq, Nat.reduceEqDiff, Nat.reduceLeDiff, Int.reduceAdd, Int.reduceSub, Int.reduceNeg, Int.reduceToNat, Int.reduceLE, Int.reduceLT, Int.zero_add, Nat.zero_add, List.toList_toArray, Option.map_some, Bool.or_false, Bool.or_true, Bool.false_or, Bool.true_or, Bool.or_self, cond_false, cond_true, List.length_cons, List.length_nil, true_and, and_true, forall_eq, forall_eq_apply_imp_iff, and_imp, ite_true, ite_false, reduceIte, true_or, or_true, false_or, or_false, false_and, and_false, eq_self, List.drop_succ_cons, List.drop_zero, List.zip_cons_cons, List.zip_nil_right, List.all_cons, List.all_nil, false_implies, true_implies, Bool.true_eq_false, Bool.false_eq_true, not_false_eq_true, not_true_eq_false, mx_u, mx_u2, mx_b0, mx_b1, Bool.not_eq_false, Bool.not_eq_true, Nat.le_refl, ne_eq, mG, mF, mGv, Int32.add_sub_cancel, spX0_list, spX0_canList, spX0_bestList, spX0_sumOfPoints, mArg, e3]
    refine ⟨fun _ => trivial, fun h => absurd (by simpa using h) hpk⟩
/-- the things of a set shown once more, one after the other -/
def csF (g : Nat → Nat → Int32) (p : Nat) (best lim day : Int32) : Nat → Nat → Nat → Int32
  | 0 => g
  | x + 1 => bif hB best (nI x) then cShG (csF g p best lim day x) p x lim day else csF g p best lim day x
theorem cShG_1 (g : Nat → Nat → Int32) (p x : Nat) (lim day : Int32) (hp : p < 8) {a : Nat} (ha : a < 12) : cShG g p x lim day a = g a := by
  unfold cShG
  by_cases q : g (12 + p) x + 1 < lim
  · rw [if_pos q]
    unfold up2
    rw [if_neg (by omega)]
  · rw [if_neg q]
    unfold up2
    rw [if_neg (by omega), if_neg (by omega), if_neg (by omega)]
theorem csF_1 (g : Nat → Nat → Int32) (p : Nat) (best lim day : Int32) (hp : p < 8) {a : Nat} (ha : a < 12) : ∀ n, csF g p best lim day n a = g a
  | 0 => rfl
  | n + 1 => by
    unfold csF
    cases hB best (nI n) with
    | false => exact csF_1 g p best lim day hp ha n
    | true =>
      show cShG _ p n lim day a = _
      rw [cShG_1 _ _ _ _ _ hp ha]
      exact csF_1 g p best lim day hp ha n
def cShowS (σ : mS) (p : Nat) (k : Int32) : mS := (σ.1, csF (up2 (cBlp σ (nI p)).2 8 p (σ.2 8 p + 1)) p (cBst σ (nI p) k (2 ^ cPop (cMay σ (nI p)) - 1)).2.1 (σ.2 1 3) (σ.1 0) (cTn σ))
def cShowF (σ : mS) (p k : Int32) : Int32 × mS := if isInF p 0 7 = true ∧ isInF k 1 5 = true then ((cBst σ p k (2 ^ cPop (cMay σ p) - 1)).2.1, cShowS σ p.toNatClampNeg k) else (-1, σ)
def spX0_show : mC := mG 2 false (fun σ _ => cOk σ) (fun σ xs => cShowF σ (mArg xs 0) (mArg xs 1))
set_option maxHeartbeats 8000000 in
set_option maxRecDepth 100000 in
theorem ctX0_show : mCt hX0 0 15 vwC yX0_show cX0_show 5 (some .int) 6 spX0_show := by
  refine mMeet (k := (kX0 [(134, spX0_canList), (137, spX0_bestList), (67, spX0_has), (143, spX0_showOnce)])) (bl := 0) (own := RX0) (C := RX0) (T := TX0) (ty0 := tyX0) (by decide +kernel) rfl (tbX0 _) (mCal_cons (okX0_134 (by decide)) (mCal_cons (okX0_137 (by decide)) (mCal_cons (okX0_67 (by decide)) (mCal_cons (okX0_143 (by decide)) mCal_nil)))) (Or.inl ⟨rfl, rfl, rfl⟩) (by decide) ?_
  intro σ xs hlen hpre X hX
  obtain ⟨a0, a1, rfl⟩ := mx_l2 xs hlen
  change X (0, [some (.ref 0), some (.int a0), some (.int a1), none, none], [], σ)
  have hok : cOk σ := hpre
  obtain ⟨ht, hn⟩ := hok.1
  by_cases hpk : isInF a0 0 7 = true ∧ isInF a1 1 5 = true
  · have hp := hpk.1
    have hk5 := hpk.2
    obtain ⟨p, hp1, rfl, hp2, hp3⟩ := mPers_ix hpk.1
    have hE : cEq σ (cBlp σ (nI p)) := wcG_eq _ _ _ _
    obtain ⟨bb, hbb⟩ : ∃ z, z = (cBst σ (nI p) a1 (2 ^ cPop (cMay σ (nI p)) - 1)).2.1 := ⟨_, rfl⟩
    have e3 : cShowF σ (nI p) a1 = (bb, (σ.1, csF (up2 (cBlp σ (nI p)).2 8 p (σ.2 8 p + 1)) p bb (σ.2 1 3) (σ.1 0) (cTn σ))) := by
      unfold cShowF cShowS
      rw [if_pos hpk, hp3, ← hbb]
    have e8 : (cBlp σ (nI p)).2 8 = σ.2 8 := hE.2 8 (by decide)
    have loop := mFor (X := X) (cTn σ) (fun x => (31, [some (.ref 0), some (.int (nI p)), some (.int a1), some (.int bb), some (.int (nI x))], [], (σ.1, csF (up2 (cBlp σ (nI p)).2 8 p (σ.2 8 p + 1)) p bb (σ.2 1 3) (σ.1 0) x))) ?_ ?_ 0 (Nat.zero_le _)
    · have e1 : (cBlp σ (nI p)).1 = σ.1 := hE.1
      refine mWalk hX [31] 60 ?_
      simp only [mRun, mCut, mAt, mSet, mArgs, mFind, mLdI, mLdA, mStI, mInc, mBin, mDiv, mJ1, mJ2, mN1, mN2, mGet, mPut, mLdE, mStE, mLdR, mKon, mDup, mDup2, mAft, mCaV, mCaS, mRetI, mRetV, fX0_18, fX0_21, fX0_24, fX0_27, fX0_30, fX0_33, fX0_36, fX0_39, fX0_44, fX0_47, fX0_50, fX0_53, fX0_57, fX0_60, fX0_83, oX0_117, cX0_c, nX0_0, vX0_0, vX0_1, nX0_2, vX0_2, nX0_3, vX0_3, vX0_4, vX0_5, vX0_6, nX0_7, vX0_7, vX0_8, vX0_9, vX0_10, vX0_11, vX0_12, vX0_13, vX0_14, lX0_1, aX0_1, lX0_2, aX0_2, lX0_3, aX0_3, lX0_4, aX0_4, lX0_5, aX0_5, lX0_6, aX0_6, lX0_7, aX0_7, lX0_8, aX0_8, lX0_9, rX0_9, lX0_10, rX0_10, lX0_11, aX0_11, gX0_n, vX0_show_0, vX0_show_1, vX0_show_2, vX0_show_3, vX0_show_6, vX0_show_9, vX0_show_10, vX0_show_11, vX0_show_12, vX0_show_13, vX0_show_14, vX0_show_17, vX0_show_18, vX0_show_19, vX0_show_22, vX0_show_23, vX0_show_24, vX0_show_25, vX0_show_26, vX0_show_27, vX0_show_28, vX0_show_29, vX0_show_31, vX0_show_33, vX0_show_34, vX0_show_37, vX0_show_40, vX0_show_41, vX0_show_43, vX0_show_46, vX0_show_49, vX0_show_50, vX0_show_51, vX0_show_53, vX0_show_56, vX0_show_59, vX0_show_62, vX0_show_63, Nat.reduceAdd, Nat.reduceSub, Nat.reduceBEq, Nat.reduceEqDiff, Nat.reduceLeDiff, Int.reduceAdd, Int.reduceSub, Int.reduceNeg, Int.reduceToNat, Int.reduceLE, Int.reduceLT, Int.zero_add, Nat.zero_add, List.toList_toArray, Option.map_some, Bool.or_false, Bool.or_true, Bool.false_or, Bool.true_or, Bool.or_self, cond_false, cond_true, List.length_cons, List.length_nil, true_and, and_true, forall_eq, forall_eq_apply_imp_iff, and_imp, ite_true, ite_false, reduceIte, true_or, or_true, false_or, or_false, false_and, and_false, eq_self, List.drop_succ_cons, List.drop_zero, List.zip_cons_cons, List.zip_nil_right, List.all_cons, List.all_nil, false_implies, true_implies, Bool.true_eq_false, Bool.false_eq_true, not_false_eq_true, not_true_eq_false, mx_u, mx_u2, mx_b0, mx_b1, Bool.not_eq_false, Bool.not_eq_true, Nat.le_refl, ne_eq, mG, mF, mGv, Int32.add_sub_cancel, spX0_show, spX0_canList, spX0_bestList, spX0_has, spX0_showOnce, mArg, hok, hp, hk5, Bool.and_self, hp2, hp3, e8, e1]
      rw [← hbb]
      exact loop
    · refine mWalk hX [31] 60 ?_
      simp only [mRun, mCut, mAt, mSet, mArgs, mFind, mLdI, mLdA, mStI, mInc, mBin, mDiv, mJ1, mJ2, mN1, mN2, mGet, mPut, mLdE, mStE, mLdR, mKon, mDup, mDup2, mAft, mCaV, mCaS, mRetI, mRetV, fX0_18, fX0_21, fX0_24, fX0_27, fX0_30, fX0_33, fX0_36, fX0_39, fX0_44, fX0_47, fX0_50, fX0_53, fX0_57, fX0_60, fX0_83, oX0_117, cX0_c, nX0_0, vX0_0, vX0_1, nX0_2, vX0_2, nX0_3, vX0_3, vX0_4, vX0_5, vX0_6, nX0_7, vX0_7, vX0_8, vX0_9, vX0_10, vX0_11, vX0_12, vX0_13, vX0_14, lX0_1, aX0_1, lX0_2, aX0_2, lX0_3, aX0_3, lX0_4, aX0_4, lX0_5, aX0_5, lX0_6, aX0_6, lX0_7, aX0_7, lX0_8, aX0_8, lX0_9, rX0_9, lX0_10, rX0_10, lX0_11, aX0_11, gX0_n, vX0_show_0, vX0_show_1, vX0_show_2, vX0_show_3, vX0_show_6, vX0_show_9, vX0_show_10, vX0_show_11, vX0_show_12, vX0_show_13, vX0_show_14, vX0_show_17, vX0_show_18, vX0_show_19, vX0_show_22, vX0_show_23, vX0_show_24, vX0_show_25, vX0_show_26, vX0_show_27, vX0_show_28, vX0_show_29, vX0_show_31, vX0_show_33, vX0_show_34, vX0_show_37, vX0_show_40, vX0_show_41, vX0_show_43, vX0_show_46, vX0_show_49, vX0_show_50, vX0_show_51, vX0_show_53, vX0_show_56, vX0_show_59, vX0_show_62, vX0_show_63, Nat.reduceAdd, Nat.reduceSub, Nat.reduceBEq, Nat.reduceEqDiff, Nat.reduceLeDiff, Int.reduceAdd, Int.reduceSub, Int.reduceNeg, Int.reduceToNat, Int.reduceLE, Int.reduceLT, Int.zero_add, Nat.zero_add, List.toList_toArray, Option.map_some, Bool.or_false, Bool.or_true, Bool.false_or, Bool.true_or, Bool.or_self, cond_false, cond_true, List.length_cons, List.length_nil, true_and, and_true, forall_eq, forall_eq_apply_imp_iff, and_imp, ite_true, ite_false, reduceIte, true_or, or_true, false_or, or_false, false_and, and_false, eq_self, List.drop_succ_cons, List.drop_zero, List.zip_cons_cons, List.zip_nil_right, List.all_cons, List.all_nil, false_implies, true_implies, Bool.true_eq_false, Bool.false_eq_true, not_false_eq_true, not_true_eq_false, mx_u, mx_u2, mx_b0, mx_b1, Bool.not_eq_false, Bool.not_eq_true, Nat.le_refl, ne_eq, mG, mF, mGv, Int32.add_sub_cancel, spX0_show, spX0_canList, spX0_bestList, spX0_has, spX0_showOnce, mArg, ht, Int32.le_refl, e3]
    · intro x hx ih
      have c1 : ¬ nI (cTn σ) ≤ nI x := nI_ge hx (by omega)
      have h2 : cIx (nI x) := ⟨x, by omega, rfl⟩
      have e1 : (nI x).toNatClampNeg = x := nI_clamp (by omega)
      have el : csF (up2 (cBlp σ (nI p)).2 8 p (σ.2 8 p + 1)) p bb (σ.2 1 3) (σ.1 0) x 1 = σ.2 1 := by
        rw [csF_1 _ _ _ _ _ hp1 (by decide)]
        unfold up2
        rw [if_neg (by decide)]
        exact hE.2 1 (by decide)
      refine mWalk hX [31] 60 ?_
      simp only [mRun, mCut, mAt, mSet, mArgs, mFind, mLdI, mLdA, mStI, mInc, mBin, mDiv, mJ1, mJ2, mN1, mN2, mGet, mPut, mLdE, mStE, mLdR, mKon, mDup, mDup2, mAft, mCaV, mCaS, mRetI, mRetV, fX0_18, fX0_21, fX0_24, fX0_27, fX0_30, fX0_33, fX0_36, fX0_39, fX0_44, fX0_47, fX0_50, fX0_53, fX0_57, fX0_60, fX0_83, oX0_117, cX0_c, nX0_0, vX0_0, vX0_1, nX0_2, vX0_2, nX0_3, vX0_3, vX0_4, vX0_5, vX0_6, nX0_7, vX0_7, vX0_8, vX0_9, vX0_10, vX0_11, vX0_12, vX0_13, vX0_14, lX0_1, aX0_1, lX0_2, aX0_2, lX0_3, aX0_3, lX0_4, aX0_4, lX0_5, aX0_5, lX0_6, aX0_6, lX0_7, aX0_7, lX0_8, aX0_8, lX0_9, rX0_9, lX0_10, rX0_10, lX0_11, aX0_11, gX0_n, vX0_show_0, vX0_show_1, vX0_show_2, vX0_show_3, vX0_show_6, vX0_show_9, vX0_show_10, vX0_show_11, vX0_show_12, vX0_show_13, vX0_show_14, vX0_show_17, vX0_show_18, vX0_show_19, vX0_show_22, vX0_show_23, vX0_show_24, vX0_show_25, vX0_show_26, vX0_show_27, vX0_show_28, vX0_show_29, vX0_show_31, vX0_show_33, vX0_show_34, vX0_show_37, vX0_show_40, vX0_show_41, vX0_show_43, vX0_show_46, vX0_show_49, vX0_show_50, vX0_show_51, vX0_show_53, vX0_show_56, vX0_show_59, vX0_show_62, vX0_show_63, Nat.reduceAdd, Nat.reduceSub, Nat.reduceBEq, Nat.reduceEqDiff, Nat.reduceLeDiff, Int.reduceAdd, Int.reduceSub, Int.reduceNeg, Int.reduceToNat, Int.reduceLE, Int.reduceLT, Int.zero_add, Nat.zero_add, List.toList_toArray, Option.map_some, Bool.or_false, Bool.or_true, Bool.false_or, Bool.true_or, Bool.or_self, cond_false, cond_true, List.length_cons, List.length_nil, true_and, and_true, forall_eq, forall_eq_apply_imp_iff, and_imp, ite_true, ite_false, reduceIte, true_or, or_true, false_or, or_false, false_and, and_false, eq_self, List.drop_succ_cons, List.drop_zero, List.zip_cons_cons, List.zip_nil_right, List.all_cons, List.all_nil, false_implies, true_implies, Bool.true_eq_false, Bool.false_eq_true, not_false_eq_true, not_true_eq_false, mx_u, mx_u2, mx_b0, mx_b1, Bool.not_eq_false, Bool.not_eq_true, Nat.le_refl, ne_eq, mG, mF, mGv, Int32.add_sub_cancel, spX0_show, spX0_canList, spX0_bestList, spX0_has, spX0_showOnce, mArg, ht, c1, hp, h2, hp3, e1, el, nI_1]
      refine ⟨fun h1 => ?_, fun h1 => ?_⟩
      · rw [csF, h1] at ih
        exact ih
      · rw [csF, h1] at ih
        exact ih
  · have e3 : cShowF σ a0 a1 = (-1, σ) := by unfold cShowF; rw [if_neg hpk]
    refine mWalk hX [11] 60 ?_
    simp only [mRun, mCut, mAt, mSet, mArgs, mFind, mLdI, mLdA, mStI, mInc, mBin, mDiv, mJ1, mJ2, mN1, mN2, mGet, mPut, mLdE, mStE, mLdR, mKon, mDup, mDup2, mAft, mCaV, mCaS, mRetI, mRetV, fX0_18, fX0_21, fX0_24, fX0_27, fX0_30, fX0_33, fX0_36, fX0_39, fX0_44, fX0_47, fX0_50, fX0_53, fX0_57, fX0_60, fX0_83, oX0_117, cX0_c, nX0_0, vX0_0, vX0_1, nX0_2, vX0_2, nX0_3, vX0_3, vX0_4, vX0_5, vX0_6, nX0_7, vX0_7, vX0_8, vX0_9, vX0_10, vX0_11, vX0_12, vX0_13, vX0_14, lX0_1, aX0_1, lX0_2, aX0_2, lX0_3, aX0_3, lX0_4, aX0_4, lX0_5, aX0_5, lX0_6, aX0_6, lX0_7, aX0_7, lX0_8, aX0_8, lX0_9, rX0_9, lX0_10, rX0_10, lX0_11, aX0_11, gX0_n, vX0_show_0, vX0_show_1, vX0_show_2, vX0_show_3, vX0_show_6, vX0_show_9, vX0_show_10, vX0_show_11, vX0_show_12, vX0_show_13, vX0_show_14, vX0_show_17, vX0_show_18, vX0_show_19, vX0_show_22, vX0_show_23, vX0_show_24, vX0_show_25, vX0_show_26, vX0_show_27, vX0_show_28, vX0_show_29, vX0_show_31, vX0_show_33, vX0_show_34, vX0_show_37, vX0_show_40, vX0_show_41, vX0_show_43, vX0_show_46, vX0_show_49, vX0_show_50, vX0_show_51, vX0_show_53, vX0_show_56, vX0_show_59, vX0_show_62, vX0_show_63, Nat.reduceAdd, Nat.reduceSub, Nat.reduceBEq, Nat.reduceEqDiff, Nat.reduceLeDiff, Int.reduceAdd, Int.reduceSub, Int.reduceNeg, Int.reduceToNat, Int.reduceLE, Int.reduceLT, Int.zero_add, Nat.zero_add, List.toList_toArray, Option.map_some, Bool.or_false, Bool.or_true, Bool.false_or, Bool.true_or, Bool.or_self, cond_false, cond_true, List.length_cons, List.length_nil, true_and, and_true, forall_eq, forall_eq_apply_imp_iff, and_imp, ite_true, ite_false, reduceIte, true_or, or_true, false_or, or_false, false_and, and_false, eq_self, List.drop_succ_cons, List.drop_zero, List.zip_cons_cons, List.zip_nil_right, List.all_cons, List.all_nil, false_implies, true_implies, Bool.true_eq_false, Bool.false_eq_true, not_false_eq_true, not_true_eq_false, mx_u, mx_u2, mx_b0, mx_b1, Bool.not_eq_false, Bool.not_eq_true, Nat.le_refl, ne_eq, mG, mF, mGv, Int32.add_sub_cancel, spX0_show, spX0_canList, spX0_bestList, spX0_has, spX0_showOnce, mArg, e3]
    exact ⟨fun _ => trivial, fun h => absurd (by simpa using h) hpk⟩
