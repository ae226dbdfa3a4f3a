/-- the same but for the points -/
def cEq (σ σ' : mS) : Prop := σ'.1 = σ.1 ∧ ∀ a, a ≠ 11 → σ'.2 a = σ.2 a
theorem cEq_rf (σ : mS) : cEq σ σ := ⟨rfl, fun _ _ => rfl⟩
theorem cEq_tn {σ σ' : mS} (h : cEq σ σ') : cTn σ' = cTn σ := by unfold cTn; rw [h.1]
theorem cEq_bn {σ σ' : mS} (h : cEq σ σ') : cBn σ' = cBn σ := by unfold cBn; rw [h.1]
theorem cEq_ok {σ σ' : mS} (h : cEq σ σ') (ho : cOk σ) : cOk σ' := by
  obtain ⟨o1, o2, o3, o4, o5, o6, o7⟩ := ho
  refine ⟨?_, ?_, ?_, ?_, ?_, ?_, ?_⟩
  · rw [cEq_tn h, h.1]; exact o1
  · rw [cEq_bn h, h.1]; exact o2
  · rw [cEq_bn h, h.2 5 (by decide)]; exact o3
  · rw [h.2 1 (by decide)]; exact o4
  · rw [h.1]; exact o5
  · rw [cEq_tn h, h.1]; exact o6
  · intro p x hp hx
    rw [h.2 (20 + p) (by omega)]
    exact o7 p x hp hx
theorem cEq_kin {σ σ' : mS} (h : cEq σ σ') : cKin σ' = cKin σ := by
  funext a b
  unfold cKin
  rw [cEq_bn h, h.1, h.2 7 (by decide), h.2 5 (by decide), h.2 1 (by decide)]
/-- points written where c holds -/
def wcG (g : Nat → Nat → Int32) (c : Nat → Bool) (f : Nat → Int32) : Nat → Nat → Nat → Int32
  | 0 => g
  | x + 1 => bif c x then up2 (wcG g c f x) 11 x (f x) else wcG g c f x
theorem wcG_ne {g : Nat → Nat → Int32} {c : Nat → Bool} {f : Nat → Int32} {b : Nat} (hb : b ≠ 11) : ∀ n, wcG g c f n b = g b
  | 0 => rfl
  | n + 1 => by
    unfold wcG
    cases c n with
    | false => exact wcG_ne hb n
    | true =>
      show up2 _ 11 n _ b = _
      unfold up2
      rw [if_neg hb]
      exact wcG_ne hb n
theorem wcG_in {g : Nat → Nat → Int32} {c : Nat → Bool} {f : Nat → Int32} : ∀ {n x : Nat}, x < n → c x = true → wcG g c f n 11 x = f x
  | n + 1, x, hx, hc => by
    unfold wcG
    by_cases e : x = n
    · subst e
      rw [hc]
      show up2 _ 11 x _ 11 x = _
      simp [up2, upd]
    · have ih := wcG_in (g := g) (c := c) (f := f) (n := n) (x := x) (by omega) hc
      cases c n with
      | false => exact ih
      | true =>
        show up2 _ 11 n _ 11 x = _
        simp only [up2, upd, if_true, if_neg e]
        exact ih
theorem wcG_eq (σ : mS) (c : Nat → Bool) (f : Nat → Int32) (n : Nat) : cEq σ (σ.1, wcG σ.2 c f n) := ⟨rfl, fun _ ha => wcG_ne ha n⟩
def cWrK (σ : mS) (a s : Int32) : mS := (σ.1, wcG σ.2 (fun x => hB s (nI x)) (fun x => cKin σ a (nI x)) (cTn σ))
def spX0_writeKin : mC := mGv 2 false (fun σ xs => cOk σ ∧ cIx (mArg xs 0)) (fun σ xs => cWrK σ (mArg xs 0) (mArg xs 1))
set_option maxHeartbeats 8000000 in
set_option maxRecDepth 100000 in
theorem ctX0_writeKin : mCt hX0 0 15 vwC yX0_writeKin cX0_writeKin 4 none 3 spX0_writeKin := by
  refine mMeet (k := (kX0 [(67, spX0_has), (114, spX0_kinOf)])) (bl := 2) (own := RX0) (C := RX0) (T := TX0) (ty0 := tyX0) (by decide +kernel) rfl (tbX0 _) (mCal_cons (okX0_67 (by decide)) (mCal_cons (okX0_114 (by decide)) mCal_nil)) (Or.inr (Or.inr ⟨rfl, rfl, rfl⟩)) (by decide) ?_
  intro σ xs hlen hpre X hX
  obtain ⟨a0, a1, rfl⟩ := mx_l2 xs hlen
  change X (0, [some (.ref 0), some (.int a0), some (.int a1), none], [], σ)
  obtain ⟨hok, h0⟩ : cOk σ ∧ cIx a0 := hpre
  obtain ⟨ht, hn⟩ := hok.1
  have key := mFor (X := X) (cTn σ) (fun i => (2, [some (.ref 0), some (.int a0), some (.int a1), some (.int (nI i))], [], (σ.1, wcG σ.2 (fun x => hB a1 (nI x)) (fun x => cKin σ a0 (nI x)) i))) ?_ ?_ 0 (Nat.zero_le _)
  · refine mWalk hX [2] 40 ?_
    simp only [mRun, mCut, mAt, mSet, mArgs, mFind, mLdI, mLdA, mStI, mInc, mBin, mDiv, mJ1, mJ2, mN1, mN2, mGet, mPut, mLdE, mStE, mLdR, mKon, mDup, mDup2, mAft, mCaV, mCaS, mRetI, mRetV, fX0_18, fX0_21, fX0_24, fX0_27, fX0_30, fX0_33, fX0_36, fX0_39, fX0_44, fX0_47, fX0_50, fX0_53, fX0_57, fX0_60, fX0_83, oX0_117, cX0_c, nX0_0, vX0_0, vX0_1, nX0_2, vX0_2, nX0_3, vX0_3, vX0_4, vX0_5, vX0_6, nX0_7, vX0_7, vX0_8, vX0_9, vX0_10, vX0_11, vX0_12, vX0_13, vX0_14, lX0_1, aX0_1, lX0_2, aX0_2, lX0_3, aX0_3, lX0_4, aX0_4, lX0_5, aX0_5, lX0_6, aX0_6, lX0_7, aX0_7, lX0_8, aX0_8, lX0_9, rX0_9, lX0_10, rX0_10, lX0_11, aX0_11, gX0_n, vX0_writeKin_0, vX0_writeKin_1, vX0_writeKin_2, vX0_writeKin_3, vX0_writeKin_4, vX0_writeKin_7, vX0_writeKin_10, vX0_writeKin_11, vX0_writeKin_12, vX0_writeKin_15, vX0_writeKin_18, vX0_writeKin_19, vX0_writeKin_22, vX0_writeKin_23, vX0_writeKin_24, vX0_writeKin_25, vX0_writeKin_26, vX0_writeKin_29, vX0_writeKin_30, vX0_writeKin_33, vX0_writeKin_36, Nat.reduceAdd, Nat.reduceSub, Nat.reduceBEq, Nat.reduceEqDiff, Nat.reduceLeDiff, Int.reduceAdd, Int.reduceSub, Int.reduceNeg, Int.reduceToNat, Int.reduceLE, Int.reduceLT, Int.zero_add, Nat.zero_add, List.toList_toArray, Option.map_some, Bool.or_false, Bool.or_true, Bool.false_or, Bool.true_or, Bool.or_self, cond_false, cond_true, List.length_cons, List.length_nil, true_and, and_true, forall_eq, forall_eq_apply_imp_iff, and_imp, ite_true, ite_false, reduceIte, true_or, or_true, false_or, or_false, false_and, and_false, eq_self, List.drop_succ_cons, List.drop_zero, List.zip_cons_cons, List.zip_nil_right, List.all_cons, List.all_nil, false_implies, true_implies, Bool.true_eq_false, Bool.false_eq_true, not_false_eq_true, not_true_eq_false, mx_u, mx_u2, mx_b0, mx_b1, Bool.not_eq_false, Bool.not_eq_true, Nat.le_refl, ne_eq, mG, mF, mGv, Int32.add_sub_cancel, spX0_writeKin, spX0_has, spX0_kinOf, mArg]
    exact key
  · refine mWalk hX [2] 40 ?_
    simp only [mRun, mCut, mAt, mSet, mArgs, mFind, mLdI, mLdA, mStI, mInc, mBin, mDiv, mJ1, mJ2, mN1, mN2, mGet, mPut, mLdE, mStE, mLdR, mKon, mDup, mDup2, mAft, mCaV, mCaS, mRetI, mRetV, fX0_18, fX0_21, fX0_24, fX0_27, fX0_30, fX0_33, fX0_36, fX0_39, fX0_44, fX0_47, fX0_50, fX0_53, fX0_57, fX0_60, fX0_83, oX0_117, cX0_c, nX0_0, vX0_0, vX0_1, nX0_2, vX0_2, nX0_3, vX0_3, vX0_4, vX0_5, vX0_6, nX0_7, vX0_7, vX0_8, vX0_9, vX0_10, vX0_11, vX0_12, vX0_13, vX0_14, lX0_1, aX0_1, lX0_2, aX0_2, lX0_3, aX0_3, lX0_4, aX0_4, lX0_5, aX0_5, lX0_6, aX0_6, lX0_7, aX0_7, lX0_8, aX0_8, lX0_9, rX0_9, lX0_10, rX0_10, lX0_11, aX0_11, gX0_n, vX0_writeKin_0, vX0_writeKin_1, vX0_writeKin_2, vX0_writeKin_3, vX0_writeKin_4, vX0_writeKin_7, vX0_writeKin_10, vX0_writeKin_11, vX0_writeKin_12, vX0_writeKin_15, vX0_writeKin_18, vX0_writeKin_19, vX0_writeKin_22, vX0_writeKin_23, vX0_writeKin_24, vX0_writeKin_25, vX0_writeKin_26, vX0_writeKin_29, vX0_writeKin_30, vX0_writeKin_33, vX0_writeKin_36, Nat.reduceAdd, Nat.reduceSub, Nat.reduceBEq, Nat.reduceEqDiff, Nat.reduceLeDiff, Int.reduceAdd, Int.reduceSub, Int.reduceNeg, Int.reduceToNat, Int.reduceLE, Int.reduceLT, Int.zero_add, Nat.zero_add, List.toList_toArray, Option.map_some, Bool.or_false, Bool.or_true, Bool.false_or, Bool.true_or, Bool.or_self, cond_false, cond_true, List.length_cons, List.length_nil, true_and, and_true, forall_eq, forall_eq_apply_imp_iff, and_imp, ite_true, ite_false, reduceIte, true_or, or_true, false_or, or_false, false_and, and_false, eq_self, List.drop_succ_cons, List.drop_zero, List.zip_cons_cons, List.zip_nil_right, List.all_cons, List.all_nil, false_implies, true_implies, Bool.true_eq_false, Bool.false_eq_true, not_false_eq_true, not_true_eq_false, mx_u, mx_u2, mx_b0, mx_b1, Bool.not_eq_false, Bool.not_eq_true, Nat.le_refl, ne_eq, mG, mF, mGv, Int32.add_sub_cancel, spX0_writeKin, spX0_has, spX0_kinOf, mArg, ht, Int32.le_refl, cWrK]
  · intro i hi ih
    have c1 : ¬ nI (cTn σ) ≤ nI i := nI_ge hi (by omega)
    obtain ⟨v1, e1⟩ := nI_i (j := i) (n := 12) (by omega) (by omega)
    have h2 : cIx (nI i) := ⟨i, by omega, rfl⟩
    have hE := wcG_eq σ (fun x => hB a1 (nI x)) (fun x => cKin σ a0 (nI x)) i
    have ho2 := cEq_ok hE hok
    have hk2 := cEq_kin hE
    refine mWalk hX [2] 40 ?_
    simp only [mRun, mCut, mAt, mSet, mArgs, mFind, mLdI, mLdA, mStI, mInc, mBin, mDiv, mJ1, mJ2, mN1, mN2, mGet, mPut, mLdE, mStE, mLdR, mKon, mDup, mDup2, mAft, mCaV, mCaS, mRetI, mRetV, fX0_18, fX0_21, fX0_24, fX0_27, fX0_30, fX0_33, fX0_36, fX0_39, fX0_44, fX0_47, fX0_50, fX0_53, fX0_57, fX0_60, fX0_83, oX0_117, cX0_c, nX0_0, vX0_0, vX0_1, nX0_2, vX0_2, nX0_3, vX0_3, vX0_4, vX0_5, vX0_6, nX0_7, vX0_7, vX0_8, vX0_9, vX0_10, vX0_11, vX0_12, vX0_13, vX0_14, lX0_1, aX0_1, lX0_2, aX0_2, lX0_3, aX0_3, lX0_4, aX0_4, lX0_5, aX0_5, lX0_6, aX0_6, lX0_7, aX0_7, lX0_8, aX0_8, lX0_9, rX0_9, lX0_10, rX0_10, lX0_11, aX0_11, gX0_n, vX0_writeKin_0, vX0_writeKin_1, vX0_writeKin_2, vX0_writeKin_3, vX0_writeKin_4, vX0_writeKin_7, vX0_writeKin_10, vX0_writeKin_11, vX0_writeKin_12, vX0_writeKin_15, vX0_writeKin_18, vX0_writeKin_19, vX0_writeKin_22, vX0_writeKin_23, vX0_writeKin_24, vX0_writeKin_25, vX0_writeKin_26, vX0_writeKin_29, vX0_writeKin_30, vX0_writeKin_33, vX0_writeKin_36, Nat.reduceAdd, Nat.reduceSub, Nat.reduceBEq, Nat.reduceEqDiff, Nat.reduceLeDiff, Int.reduceAdd, Int.reduceSub, Int.reduceNeg, Int.reduceToNat, Int.reduceLE, Int.reduceLT, Int.zero_add, Nat.zero_add, List.toList_toArray, Option.map_some, Bool.or_false, Bool.or_true, Bool.false_or, Bool.true_or, Bool.or_self, cond_false, cond_true, List.length_cons, List.length_nil, true_and, and_true, forall_eq, forall_eq_apply_imp_iff, and_imp, ite_true, ite_false, reduceIte, true_or, or_true, false_or, or_false, false_and, and_false, eq_self, List.drop_succ_cons, List.drop_zero, List.zip_cons_cons, List.zip_nil_right, List.all_cons, List.all_nil, false_implies, true_implies, Bool.true_eq_false, Bool.false_eq_true, not_false_eq_true, not_true_eq_false, mx_u, mx_u2, mx_b0, mx_b1, Bool.not_eq_false, Bool.not_eq_true, Nat.le_refl, ne_eq, mG, mF, mGv, Int32.add_sub_cancel, spX0_writeKin, spX0_has, spX0_kinOf, mArg, ht, c1, v1, e1, ho2, hk2, h0, h2, nI_1]
    refine ⟨fun h1 => ?_, fun h1 => ?_⟩
    · simpa [wcG, h1] using ih
    · simpa [wcG, h1] using ih
set_option maxRecDepth 100000 in
theorem okX0_118 {d : Nat} (hd : 3 + 1 ≤ d) : mOK hX0 0 15 vwC RX0 RX0 d 118 spX0_writeKin := ⟨yX0_writeKin, cX0_writeKin, 4, none, 3, ctX0_writeKin, hd, by decide, by decide +kernel, by decide +kernel, by decide +kernel, by decide +kernel, fun h => (by cases h), fun _ => ⟨by decide +kernel, by decide +kernel⟩⟩
def cSco (σ : mS) (p x : Int32) : Int32 := scoF (cKin σ) (cTak σ p) (cTn σ) x
def cWrS (σ : mS) (p s : Int32) : mS := (σ.1, wcG σ.2 (fun x => hB s (nI x)) (fun x => cSco σ p (nI x)) (cTn σ))
def spX0_writeScores : mC := mGv 2 false (fun σ _ => cOk σ) (fun σ xs => cWrS σ (mArg xs 0) (mArg xs 1))
set_option maxHeartbeats 8000000 in
set_option maxRecDepth 100000 in
theorem ctX0_writeScores : mCt hX0 0 15 vwC yX0_writeScores cX0_writeScores 5 none 4 spX0_writeScores := by
  refine mMeet (k := (kX0 [(125, spX0_takenBy), (67, spX0_has), (128, spX0_scoreOf)])) (bl := 2) (own := RX0) (C := RX0) (T := TX0) (ty0 := tyX0) (by decide +kernel) rfl (tbX0 _) (mCal_cons (okX0_125 (by decide)) (mCal_cons (okX0_67 (by decide)) (mCal_cons (okX0_128 (by decide)) mCal_nil))) (Or.inr (Or.inr ⟨rfl, rfl, rfl⟩)) (by decide) ?_
  intro σ xs hlen hpre X hX
  obtain ⟨a0, a1, rfl⟩ := mx_l2 xs hlen
  change X (0, [some (.ref 0), some (.int a0), some (.int a1), none, none], [], σ)
  have hok : cOk σ := hpre
  obtain ⟨ht, hn⟩ := hok.1
  have key := mFor (X := X) (cTn σ) (fun i => (9, [some (.ref 0), some (.int a0), some (.int a1), some (.int (cTak σ a0)), some (.int (nI i))], [], (σ.1, wcG σ.2 (fun x => hB a1 (nI x)) (fun x => cSco σ a0 (nI x)) i))) ?_ ?_ 0 (Nat.zero_le _)
  · refine mWalk hX [9] 40 ?_
    simp only [mRun, mCut, mAt, mSet, mArgs, mFind, mLdI, mLdA, mStI, mInc, mBin, mDiv, mJ1, mJ2, mN1, mN2, mGet, mPut, mLdE, mStE, mLdR, mKon, mDup, mDup2, mAft, mCaV, mCaS, mRetI, mRetV, fX0_18, fX0_21, fX0_24, fX0_27, fX0_30, fX0_33, fX0_36, fX0_39, fX0_44, fX0_47, fX0_50, fX0_53, fX0_57, fX0_60, fX0_83, oX0_117, cX0_c, nX0_0, vX0_0, vX0_1, nX0_2, vX0_2, nX0_3, vX0_3, vX0_4, vX0_5, vX0_6, nX0_7, vX0_7, vX0_8, vX0_9, vX0_10, vX0_11, vX0_12, vX0_13, vX0_14, lX0_1, aX0_1, lX0_2, aX0_2, lX0_3, aX0_3, lX0_4, aX0_4, lX0_5, aX0_5, lX0_6, aX0_6, lX0_7, aX0_7, lX0_8, aX0_8, lX0_9, rX0_9, lX0_10, rX0_10, lX0_11, aX0_11, gX0_n, vX0_writeScores_0, vX0_writeScores_1, vX0_writeScores_2, vX0_writeScores_5, vX0_writeScores_6, vX0_writeScores_7, vX0_writeScores_9, vX0_writeScores_11, vX0_writeScores_12, vX0_writeScores_15, vX0_writeScores_18, vX0_writeScores_19, vX0_writeScores_21, vX0_writeScores_24, vX0_writeScores_27, vX0_writeScores_28, vX0_writeScores_31, vX0_writeScores_33, vX0_writeScores_34, vX0_writeScores_35, vX0_writeScores_37, vX0_writeScores_40, vX0_writeScores_41, vX0_writeScores_44, vX0_writeScores_47, Nat.reduceAdd, Nat.reduceSub, Nat.reduceBEq, Nat.reduceEqDiff, Nat.reduceLeDiff, Int.reduceAdd, Int.reduceSub, Int.reduceNeg, Int.reduceToNat, Int.reduceLE, Int.reduceLT, Int.zero_add, Nat.zero_add, List.toList_toArray, Option.map_some, Bool.or_false, Bool.or_true, Bool.false_or, Bool.true_or, Bool.or_self, cond_false, cond_true, List.length_cons, List.length_nil, true_and, and_true, forall_eq, forall_eq_apply_imp_iff, and_imp, ite_true, ite_false, reduceIte, true_or, or_true, false_or, or_false, false_and, and_false, eq_self, List.drop_succ_cons, List.drop_zero, List.zip_cons_cons, List.zip_nil_right, List.all_cons, List.all_nil, false_implies, true_implies, Bool.true_eq_false, Bool.false_eq_true, not_false_eq_true, not_true_eq_false, mx_u, mx_u2, mx_b0, mx_b1, Bool.not_eq_false, Bool.not_eq_true, Nat.le_refl, ne_eq, mG, mF, mGv, Int32.add_sub_cancel, spX0_writeScores, spX0_takenBy, spX0_has, spX0_scoreOf, mArg, hok]
    exact key
  · refine mWalk hX [9] 40 ?_
    simp only [mRun, mCut, mAt, mSet, mArgs, mFind, mLdI, mLdA, mStI, mInc, mBin, mDiv, mJ1, mJ2, mN1, mN2, mGet, mPut, mLdE, mStE, mLdR, mKon, mDup, mDup2, mAft, mCaV, mCaS, mRetI, mRetV, fX0_18, fX0_21, fX0_24, fX0_27, fX0_30, fX0_33, fX0_36, fX0_39, fX0_44, fX0_47, fX0_50, fX0_53, fX0_57, fX0_60, fX0_83, oX0_117, cX0_c, nX0_0, vX0_0, vX0_1, nX0_2, vX0_2, nX0_3, vX0_3, vX0_4, vX0_5, vX0_6, nX0_7, vX0_7, vX0_8, vX0_9, vX0_10, vX0_11, vX0_12, vX0_13, vX0_14, lX0_1, aX0_1, lX0_2, aX0_2, lX0_3, aX0_3, lX0_4, aX0_4, lX0_5, aX0_5, lX0_6, aX0_6, lX0_7, aX0_7, lX0_8, aX0_8, lX0_9, rX0_9, lX0_10, rX0_10, lX0_11, aX0_11, gX0_n, vX0_writeScores_0, vX0_writeScores_1, vX0_writeScores_2, vX0_writeScores_5, vX0_writeScores_6, vX0_writeScores_7, vX0_writeScores_9, vX0_writeScores_11, vX0_writeScores_12, vX0_writeScores_15, vX0_writeScores_18, vX0_writeScores_19, vX0_writeScores_21, vX0_writeScores_24, vX0_writeScores_27, vX0_writeScores_28, vX0_writeScores_31, vX0_writeScores_33, vX0_writeScores_34, vX0_writeScores_35, vX0_writeScores_37, vX0_writeScores_40, vX0_writeScores_41, vX0_writeScores_44, vX0_writeScores_47, Nat.reduceAdd, Nat.reduceSub, Nat.reduceBEq, Nat.reduceEqDiff, Nat.reduceLeDiff, Int.reduceAdd, Int.reduceSub, Int.reduceNeg, Int.reduceToNat, Int.reduceLE, Int.reduceLT, Int.zero_add, Nat.zero_add, List.toList_toArray, Option.map_some, Bool.or_false, Bool.or_true, Bool.false_or, Bool.true_or, Bool.or_self, cond_false, cond_true, List.length_cons, List.length_nil, true_and, and_true, forall_eq, forall_eq_apply_imp_iff, and_imp, ite_true, ite_false, reduceIte, true_or, or_true, false_or, or_false, false_and, and_false, eq_self, List.drop_succ_cons, List.drop_zero, List.zip_cons_cons, List.zip_nil_right, List.all_cons, List.all_nil, false_implies, true_implies, Bool.true_eq_false, Bool.false_eq_true, not_false_eq_true, not_true_eq_false, mx_u, mx_u2, mx_b0, mx_b1, Bool.not_eq_false, Bool.not_eq_true, Nat.le_refl, ne_eq, mG, mF, mGv, Int32.add_sub_cancel, spX0_writeScores, spX0_takenBy, spX0_has, spX0_scoreOf, mArg, ht, Int32.le_refl, cWrS]
  · intro i hi ih
    have c1 : ¬ nI (cTn σ) ≤ nI i := nI_ge hi (by omega)
    obtain ⟨v1, e1⟩ := nI_i (j := i) (n := 12) (by omega) (by omega)
    have h2 : cIx (nI i) := ⟨i, by omega, rfl⟩
    have hE := wcG_eq σ (fun x => hB a1 (nI x)) (fun x => cSco σ a0 (nI x)) i
    have ho2 := cEq_ok hE hok
    have hk2 := cEq_kin hE
    have ht2 := cEq_tn hE
    have hs : scoF (cKin σ) (cTak σ a0) (cTn σ) (nI i) = cSco σ a0 (nI i) := rfl
    refine mWalk hX [9] 40 ?_
    simp only [mRun, mCut, mAt, mSet, mArgs, mFind, mLdI, mLdA, mStI, mInc, mBin, mDiv, mJ1, mJ2, mN1, mN2, mGet, mPut, mLdE, mStE, mLdR, mKon, mDup, mDup2, mAft, mCaV, mCaS, mRetI, mRetV, fX0_18, fX0_21, fX0_24, fX0_27, fX0_30, fX0_33, fX0_36, fX0_39, fX0_44, fX0_47, fX0_50, fX0_53, fX0_57, fX0_60, fX0_83, oX0_117, cX0_c, nX0_0, vX0_0, vX0_1, nX0_2, vX0_2, nX0_3, vX0_3, vX0_4, vX0_5, vX0_6, nX0_7, vX0_7, vX0_8, vX0_9, vX0_10, vX0_11, vX0_12, vX0_13, vX0_14, lX0_1, aX0_1, lX0_2, aX0_2, lX0_3, aX0_3, lX0_4, aX0_4, lX0_5, aX0_5, lX0_6, aX0_6, lX0_7, aX0_7, lX0_8, aX0_8, lX0_9, rX0_9, lX0_10, rX0_10, lX0_11, aX0_11, gX0_n, vX0_writeScores_0, vX0_writeScores_1, vX0_writeScores_2, vX0_writeScores_5, vX0_writeScores_6, vX0_writeScores_7, vX0_writeScores_9, vX0_writeScores_11, vX0_writeScores_12, vX0_writeScores_15, vX0_writeScores_18, vX0_writeScores_19, vX0_writeScores_21, vX0_writeScores_24, vX0_writeScores_27, vX0_writeScores_28, vX0_writeScores_31, vX0_writeScores_33, vX0_writeScores_34, vX0_writeScores_35, vX0_writeScores_37, vX0_writeScores_40, vX0_writeScores_41, vX0_writeScores_44, vX0_writeScores_47, Nat.reduceAdd, Nat.reduceSub, Nat.reduceBEq, Nat.reduceEqDiff, Nat.reduceLeDiff, Int.reduceAdd, Int.reduceSub, Int.reduceNeg, Int.reduceToNat, Int.reduceLE, Int.reduceLT, Int.zero_add, Nat.zero_add, List.toList_toArray, Option.map_some, Bool.or_false, Bool.or_true, Bool.false_or, Bool.true_or, Bool.or_self, cond_false, cond_true, List.length_cons, List.length_nil, true_and, and_true, forall_eq, forall_eq_apply_imp_iff, and_imp, ite_true, ite_false, reduceIte, true_or, or_true, false_or, or_false, false_and, and_false, eq_self, List.drop_succ_cons, List.drop_zero, List.zip_cons_cons, List.zip_nil_right, List.all_cons, List.all_nil, false_implies, true_implies, Bool.true_eq_false, Bool.false_eq_true, not_false_eq_true, not_true_eq_false, mx_u, mx_u2, mx_b0, mx_b1, Bool.not_eq_false, Bool.not_eq_true, Nat.le_refl, ne_eq, mG, mF, mGv, Int32.add_sub_cancel, spX0_writeScores, spX0_takenBy, spX0_has, spX0_scoreOf, mArg, ht, c1, v1, e1, ho2, hk2, ht2, h2, hs, nI_1]
    refine ⟨fun h1 => ?_, fun h1 => ?_⟩
    · simpa [wcG, h1] using ih
    · simpa [wcG, h1] using ih
set_option maxRecDepth 100000 in
theorem okX0_157 {d : Nat} (hd : 4 + 1 ≤ d) : mOK hX0 0 15 vwC RX0 RX0 d 157 spX0_writeScores := ⟨yX0_writeScores, cX0_writeScores, 5, none, 4, ctX0_writeScores, hd, by decide, by decide +kernel, by decide +kernel, by decide +kernel, by decide +kernel, fun h => (by cases h), fun _ => ⟨by decide +kernel, by decide +kernel⟩⟩
theorem bst_ix (f : Int32 → Int32) (s : Int32) : ∀ n, bstF f s n = -1 ∨ ∃ j, j < n ∧ bstF f s n = nI j ∧ hB s (nI j) = true
  | 0 => Or.inl rfl
  | n + 1 => by
    unfold bstF
    by_cases q : hB s (nI n) = true ∧ (bstF f s n = -1 ∨ f (bstF f s n) < f (nI n))
    · rw [if_pos q]
      exact Or.inr ⟨n, by omega, rfl, q.1⟩
    · rw [if_neg q]
      rcases bst_ix f s n with h | ⟨j, hj, h⟩
      · exact Or.inl h
      · exact Or.inr ⟨j, by omega, h⟩
theorem nI_m1 {j : Nat} (hj : j < 1000) : ¬ nI j = -1 := fun q => by
  have := congrArg Int32.toInt q
  rw [nI_toInt (by omega)] at this
  have e : (-1 : Int32).toInt = -1 := by decide +kernel
  rw [e] at this
  omega
def bst0 (b : Int32) : Int32 := if b = -1 then 0 else b
def cPt (σ : mS) (x : Int32) : Int32 := σ.2 11 x.toNatClampNeg
def spX0_bestByPoints : mC := mF 1 false (fun σ _ => cOk σ) (fun σ xs => bst0 (bstF (cPt σ) (mArg xs 0) (cTn σ)))
set_option maxHeartbeats 8000000 in
set_option maxRecDepth 100000 in
theorem ctX0_bestByPoints : mCt hX0 0 15 vwC yX0_bestByPoints cX0_bestByPoints 5 (some .int) 1 spX0_bestByPoints := by
  refine mMeet (k := (kX0 [(67, spX0_has)])) (bl := 0) (own := RX0) (C := RX0) (T := TX0) (ty0 := tyX0) (by decide +kernel) rfl (tbX0 _) (mCal_cons (okX0_67 (by decide)) mCal_nil) (Or.inl ⟨rfl, rfl, rfl⟩) (by decide) ?_
  intro σ xs hlen hpre X hX
  obtain ⟨a0, rfl⟩ := mx_l1 xs hlen
  change X (0, [some (.ref 0), some (.int a0), none, none, none], [], σ)
  have hok : cOk σ := hpre
  obtain ⟨ht, hn⟩ := hok.1
  have key := mFor (X := X) (cTn σ) (fun i => (7, [some (.ref 0), some (.int a0), some (.int (bst0 (bstF (cPt σ) a0 i))), some (.int (b32 (! decide (bstF (cPt σ) a0 i = -1)))), some (.int (nI i))], [], σ)) ?_ ?_ 0 (Nat.zero_le _)
  · refine mWalk hX [7] 40 ?_
    simp only [mRun, mCut, mAt, mSet, mArgs, mFind, mLdI, mLdA, mStI, mInc, mBin, mDiv, mJ1, mJ2, mN1, mN2, mGet, mPut, mLdE, mStE, mLdR, mKon, mDup, mDup2, mAft, mCaV, mCaS, mRetI, mRetV, fX0_18, fX0_21, fX0_24, fX0_27, fX0_30, fX0_33, fX0_36, fX0_39, fX0_44, fX0_47, fX0_50, fX0_53, fX0_57, fX0_60, fX0_83, oX0_117, cX0_c, nX0_0, vX0_0, vX0_1, nX0_2, vX0_2, nX0_3, vX0_3, vX0_4, vX0_5, vX0_6, nX0_7, vX0_7, vX0_8, vX0_9, vX0_10, vX0_11, vX0_12, vX0_13, vX0_14, lX0_1, aX0_1, lX0_2, aX0_2, lX0_3, aX0_3, lX0_4, aX0_4, lX0_5, aX0_5, lX0_6, aX0_6, lX0_7, aX0_7, lX0_8, aX0_8, lX0_9, rX0_9, lX0_10, rX0_10, lX0_11, aX0_11, gX0_n, vX0_bestByPoints_0, vX0_bestByPoints_1, vX0_bestByPoints_2, vX0_bestByPoints_3, vX0_bestByPoints_4, vX0_bestByPoints_5, vX0_bestByPoints_7, vX0_bestByPoints_9, vX0_bestByPoints_10, vX0_bestByPoints_13, vX0_bestByPoints_16, vX0_bestByPoints_17, vX0_bestByPoints_19, vX0_bestByPoints_22, vX0_bestByPoints_25, vX0_bestByPoints_26, vX0_bestByPoints_29, vX0_bestByPoints_30, vX0_bestByPoints_33, vX0_bestByPoints_35, vX0_bestByPoints_36, vX0_bestByPoints_37, vX0_bestByPoints_40, vX0_bestByPoints_41, vX0_bestByPoints_42, vX0_bestByPoints_45, vX0_bestByPoints_47, vX0_bestByPoints_48, vX0_bestByPoints_49, vX0_bestByPoints_50, vX0_bestByPoints_53, vX0_bestByPoints_56, vX0_bestByPoints_57, Nat.reduceAdd, Nat.reduceSub, Nat.reduceBEq, Nat.reduceEqDiff, Nat.reduceLeDiff, Int.reduceAdd, Int.reduceSub, Int.reduceNeg, Int.reduceToNat, Int.reduceLE, Int.reduceLT, Int.zero_add, Nat.zero_add, List.toList_toArray, Option.map_some, Bool.or_false, Bool.or_true, Bool.false_or, Bool.true_or, Bool.or_self, cond_false, cond_true, List.length_cons, List.length_nil, true_and, and_true, forall_eq, forall_eq_apply_imp_iff, and_imp, ite_true, ite_false, reduceIte, true_or, or_true, false_or, or_false, false_and, and_false, eq_self, List.drop_succ_cons, List.drop_zero, List.zip_cons_cons, List.zip_nil_right, List.all_cons, List.all_nil, false_implies, true_implies, Bool.true_eq_false, Bool.false_eq_true, not_false_eq_true, not_true_eq_false, mx_u, mx_u2, mx_b0, mx_b1, Bool.not_eq_false, Bool.not_eq_true, Nat.le_refl, ne_eq, mG, mF, mGv, Int32.add_sub_cancel, spX0_bestByPoints, spX0_has, mArg]
    exact key
  · refine mWalk hX [7] 40 ?_
    simp only [mRun, mCut, mAt, mSet, mArgs, mFind, mLdI, mLdA, mStI, mInc, mBin, mDiv, mJ1, mJ2, mN1, mN2, mGet, mPut, mLdE, mStE, mLdR, mKon, mDup, mDup2, mAft, mCaV, mCaS, mRetI, mRetV, fX0_18, fX0_21, fX0_24, fX0_27, fX0_30, fX0_33, fX0_36, fX0_39, fX0_44, fX0_47, fX0_50, fX0_53, fX0_57, fX0_60, fX0_83, oX0_117, cX0_c, nX0_0, vX0_0, vX0_1, nX0_2, vX0_2, nX0_3, vX0_3, vX0_4, vX0_5, vX0_6, nX0_7, vX0_7, vX0_8, vX0_9, vX0_10, vX0_11, vX0_12, vX0_13, vX0_14, lX0_1, aX0_1, lX0_2, aX0_2, lX0_3, aX0_3, lX0_4, aX0_4, lX0_5, aX0_5, lX0_6, aX0_6, lX0_7, aX0_7, lX0_8, aX0_8, lX0_9, rX0_9, lX0_10, rX0_10, lX0_11, aX0_11, gX0_n, vX0_bestByPoints_0, vX0_bestByPoints_1, vX0_bestByPoints_2, vX0_bestByPoints_3, vX0_bestByPoints_4, vX0_bestByPoints_5, vX0_bestByPoints_7, vX0_bestByPoints_9, vX0_bestByPoints_10, vX0_bestByPoints_13, vX0_bestByPoints_16, vX0_bestByPoints_17, vX0_bestByPoints_19, vX0_bestByPoints_22, vX0_bestByPoints_25, vX0_bestByPoints_26, vX0_bestByPoints_29, vX0_bestByPoints_30, vX0_bestByPoints_33, vX0_bestByPoints_35, vX0_bestByPoints_36, vX0_bestByPoints_37, vX0_bestByPoints_40, vX0_bestByPoints_41, vX0_bestByPoints_42, vX0_bestByPoints_45, vX0_bestByPoints_47, vX0_bestByPoints_48, vX0_bestByPoints_49, vX0_bestByPoints_50, vX0_bestByPoints_53, vX0_bestByPoints_56, vX0_bestByPoints_57, Nat.reduceAdd, Nat.reduceSub, Nat.reduceBEq, Nat.reduceEqDiff, Nat.reduceLeDiff, Int.reduceAdd, Int.reduceSub, Int.reduceNeg, Int.reduceToNat, Int.reduceLE, Int.reduceLT, Int.zero_add, Nat.zero_add, List.toList_toArray, Option.map_some, Bool.or_false, Bool.or_true, Bool.false_or, Bool.true_or, Bool.or_self, cond_false, cond_true, List.length_cons, List.length_nil, true_and, and_true, forall_eq, forall_eq_apply_imp_iff, and_imp, ite_true, ite_false, reduceIte, true_or, or_true, false_or, or_false, false_and, and_false, eq_self, List.drop_succ_cons, List.drop_zero, List.zip_cons_cons, List.zip_nil_right, List.all_cons, List.all_nil, false_implies, true_implies, Bool.true_eq_false, Bool.false_eq_true, not_false_eq_true, not_true_eq_false, mx_u, mx_u2, mx_b0, mx_b1, Bool.not_eq_false, Bool.not_eq_true, Nat.le_refl, ne_eq, mG, mF, mGv, Int32.add_sub_cancel, spX0_bestByPoints, spX0_has, mArg, ht, Int32.le_refl]
  · intro i hi ih
    have c1 : ¬ nI (cTn σ) ≤ nI i := nI_ge hi (by omega)
    obtain ⟨v1, e1⟩ := nI_i (j := i) (n := 12) (by omega) (by omega)
    have n1 := nI_m1 (j := i) (by omega)
    have pe : cPt σ (nI i) = σ.2 11 i := by unfold cPt; rw [e1]
    rcases bst_ix (cPt σ) a0 i with hb | ⟨j, hj, hb, -⟩
    · have hz : (! decide (bstF (cPt σ) a0 i = -1)) = false := by simp [hb]
      refine mWalk hX [7] 40 ?_
      simp only [mRun, mCut, mAt, mSet, mArgs, mFind, mLdI, mLdA, mStI, mInc, mBin, mDiv, mJ1, mJ2, mN1, mN2, mGet, mPut, mLdE, mStE, mLdR, mKon, mDup, mDup2, mAft, mCaV, mCaS, mRetI, mRetV, fX0_18, fX0_21, fX0_24, fX0_27, fX0_30, fX0_33, fX0_36, fX0_39, fX0_44, fX0_47, fX0_50, fX0_53, fX0_57, fX0_60, fX0_83, oX0_117, cX0_c, nX0_0, vX0_0, vX0_1, nX0_2, vX0_2, nX0_3, vX0_3, vX0_4, vX0_5, vX0_6, nX0_7, vX0_7, vX0_8, vX0_9, vX0_10, vX0_11, vX0_12, vX0_13, vX0_14, lX0_1, aX0_1, lX0_2, aX0_2, lX0_3, aX0_3, lX0_4, aX0_4, lX0_5, aX0_5, lX0_6, aX0_6, lX0_7, aX0_7, lX0_8, aX0_8, lX0_9, rX0_9, lX0_10, rX0_10, lX0_11, aX0_11, gX0_n, vX0_bestByPoints_0, vX0_bestByPoints_1, vX0_bestByPoints_2, vX0_bestByPoints_3, vX0_bestByPoints_4, vX0_bestByPoints_5, vX0_bestByPoints_7, vX0_bestByPoints_9, vX0_bestByPoints_10, vX0_bestByPoints_13, vX0_bestByPoints_16, vX0_bestByPoints_17, vX0_bestByPoints_19, vX0_bestByPoints_22, vX0_bestByPoints_25, vX0_bestByPoints_26, vX0_bestByPoints_29, vX0_bestByPoints_30, vX0_bestByPoints_33, vX0_bestByPoints_35, vX0_bestByPoints_36, vX0_bestByPoints_37, vX0_bestByPoints_40, vX0_bestByPoints_41, vX0_bestByPoints_42, vX0_bestByPoints_45, vX0_bestByPoints_47, vX0_bestByPoints_48, vX0_bestByPoints_49, vX0_bestByPoints_50, vX0_bestByPoints_53, vX0_bestByPoints_56, vX0_bestByPoints_57, Nat.reduceAdd, Nat.reduceSub, Nat.reduceBEq, Nat.reduceEqDiff, Nat.reduceLeDiff, Int.reduceAdd, Int.reduceSub, Int.reduceNeg, Int.reduceToNat, Int.reduceLE, Int.reduceLT, Int.zero_add, Nat.zero_add, List.toList_toArray, Option.map_some, Bool.or_false, Bool.or_true, Bool.false_or, Bool.true_or, Bool.or_self, cond_false, cond_true, List.length_cons, List.length_nil, true_and, and_true, forall_eq, forall_eq_apply_imp_iff, and_imp, ite_true, ite_false, reduceIte, true_or, or_true, false_or, or_false, false_and, and_false, eq_self, List.drop_succ_cons, List.drop_zero, List.zip_cons_cons, List.zip_nil_right, List.all_cons, List.all_nil, false_implies, true_implies, Bool.true_eq_false, Bool.false_eq_true, not_false_eq_true, not_true_eq_false, mx_u, mx_u2, mx_b0, mx_b1, Bool.not_eq_false, Bool.not_eq_true, Nat.le_refl, ne_eq, mG, mF, mGv, Int32.add_sub_cancel, spX0_bestByPoints, spX0_has, mArg, ht, c1, v1, e1, hz, nI_1]
      refine ⟨fun h1 => ?_, fun h1 => ?_⟩
      · simpa [bstF, h1, hb, bst0] using ih
      · simpa [bstF, h1, hb, bst0, n1, b32] using ih
    · have n2 := nI_m1 (j := j) (by omega)
      obtain ⟨v2, e2⟩ := nI_i (j := j) (n := 12) (by omega) (by omega)
      have hz : (! decide (bstF (cPt σ) a0 i = -1)) = true := by simp [hb, n2]
      have hy : bst0 (bstF (cPt σ) a0 i) = nI j := by simp [bst0, hb, n2]
      have pj : cPt σ (nI j) = σ.2 11 j := by unfold cPt; rw [e2]
      refine mWalk hX [7] 40 ?_
      simp only [mRun, mCut, mAt, mSet, mArgs, mFind, mLdI, mLdA, mStI, mInc, mBin, mDiv, mJ1, mJ2, mN1, mN2, mGet, mPut, mLdE, mStE, mLdR, mKon, mDup, mDup2, mAft, mCaV, mCaS, mRetI, mRetV, fX0_18, fX0_21, fX0_24, fX0_27, fX0_30, fX0_33, fX0_36, fX0_39, fX0_44, fX0_47, fX0_50, fX0_53, fX0_57, fX0_60, fX0_83, oX0_117, cX0_c, nX0_0, vX0_0, vX0_1, nX0_2, vX0_2, nX0_3, vX0_3, vX0_4, vX0_5, vX0_6, nX0_7, vX0_7, vX0_8, vX0_9, vX0_10, vX0_11, vX0_12, vX0_13, vX0_14, lX0_1, aX0_1, lX0_2, aX0_2, lX0_3, aX0_3, lX0_4, aX0_4, lX0_5, aX0_5, lX0_6, aX0_6, lX0_7, aX0_7, lX0_8, aX0_8, lX0_9, rX0_9, lX0_10, rX0_10, lX0_11, aX0_11, gX0_n, vX0_bestByPoints_0, vX0_bestByPoints_1, vX0_bestByPoints_2, vX0_bestByPoints_3, vX0_bestByPoints_4, vX0_bestByPoints_5, vX0_bestByPoints_7, vX0_bestByPoints_9, vX0_bestByPoints_10, vX0_bestByPoints_13, vX0_bestByPoints_16, vX0_bestByPoints_17, vX0_bestByPoints_19, vX0_bestByPoints_22, vX0_bestByPoints_25, vX0_bestByPoints_26, vX0_bestByPoints_29, vX0_bestByPoints_30, vX0_bestByPoints_33, vX0_bestByPoints_35, vX0_bestByPoints_36, vX0_bestByPoints_37, vX0_bestByPoints_40, vX0_bestByPoints_41, vX0_bestByPoints_42, vX0_bestByPoints_45, vX0_bestByPoints_47, vX0_bestByPoints_48, vX0_bestByPoints_49, vX0_bestByPoints_50, vX0_bestByPoints_53, vX0_bestByPoints_56, vX0_bestByPoints_57, Nat.reduceAdd, Nat.reduceSub, Nat.reduceBEq, Nat.reduceEqDiff, Nat.reduceLeDiff, Int.reduceAdd, Int.reduceSub, Int.reduceNeg, Int.reduceToNat, Int.reduceLE, Int.reduceLT, Int.zero_add, Nat.zero_add, List.toList_toArray, Option.map_some, Bool.or_false, Bool.or_true, Bool.false_or, Bool.true_or, Bool.or_self, cond_false, cond_true, List.length_cons, List.length_nil, true_and, and_true, forall_eq, forall_eq_apply_imp_iff, and_imp, ite_true, ite_false, reduceIte, true_or, or_true, false_or, or_false, false_and, and_false, eq_self, List.drop_succ_cons, List.drop_zero, List.zip_cons_cons, List.zip_nil_right, List.all_cons, List.all_nil, false_implies, true_implies, Bool.true_eq_false, Bool.false_eq_true, not_false_eq_true, not_true_eq_false, mx_u, mx_u2, mx_b0, mx_b1, Bool.not_eq_false, Bool.not_eq_true, Nat.le_refl, ne_eq, mG, mF, mGv, Int32.add_sub_cancel, spX0_bestByPoints, spX0_has, mArg, ht, c1, v1, e1, hz, hy, v2, e2, nI_1]
      refine ⟨fun h1 => ?_, fun h1 => ⟨fun h2 => ?_, fun h2 => ?_⟩⟩
      · simpa [bstF, h1, hb, bst0, n2] using ih
      · have := Int32.not_lt.mpr h2
        simpa [bstF, h1, hb, bst0, n2, pe, pj, this] using ih
      · have := Int32.not_le.mp h2
        simpa [bstF, h1, hb, bst0, n2, n1, pe, pj, this, b32] using ih
set_option maxRecDepth 100000 in
theorem okX0_121 {d : Nat} (hd : 1 + 1 ≤ d) : mOK hX0 0 15 vwC RX0 RX0 d 121 spX0_bestByPoints := ⟨yX0_bestByPoints, cX0_bestByPoints, 5, (some .int), 1, ctX0_bestByPoints, hd, by decide, by decide +kernel, by decide +kernel, by decide +kernel, by decide +kernel, fun h => (by cases h), fun _ => ⟨by decide +kernel, by decide +kernel⟩⟩
def spX0_sumOfPoints : mC := mF 1 false (fun σ _ => cOk σ) (fun σ xs => sumF (σ.2 11) (cTn σ) (mArg xs 0))
set_option maxHeartbeats 8000000 in
set_option maxRecDepth 100000 in
theorem ctX0_sumOfPoints : mCt hX0 0 15 vwC yX0_sumOfPoints cX0_sumOfPoints 4 (some .int) 1 spX0_sumOfPoints := by
  refine mMeet (k := (kX0 [(67, spX0_has)])) (bl := 0) (own := RX0) (C := RX0) (T := TX0) (ty0 := tyX0) (by decide +kernel) rfl (tbX0 _) (mCal_cons (okX0_67 (by decide)) mCal_nil) (Or.inl ⟨rfl, rfl, rfl⟩) (by decide) ?_
  intro σ xs hlen hpre X hX
  obtain ⟨a0, rfl⟩ := mx_l1 xs hlen
  change X (0, [some (.ref 0), some (.int a0), none, none], [], σ)
  have hok : cOk σ := hpre
  obtain ⟨ht, hn⟩ := hok.1
  have key := mFor (X := X) (cTn σ) (fun i => (4, [some (.ref 0), some (.int a0), some (.int (sumF (σ.2 11) i a0)), some (.int (nI i))], [], σ)) ?_ ?_ 0 (Nat.zero_le _)
  · refine mWalk hX [4] 40 ?_
    simp only [mRun, mCut, mAt, mSet, mArgs, mFind, mLdI, mLdA, mStI, mInc, mBin, mDiv, mJ1, mJ2, mN1, mN2, mGet, mPut, mLdE, mStE, mLdR, mKon, mDup, mDup2, mAft, mCaV, mCaS, mRetI, mRetV, fX0_18, fX0_21, fX0_24, fX0_27, fX0_30, fX0_33, fX0_36, fX0_39, fX0_44, fX0_47, fX0_50, fX0_53, fX0_57, fX0_60, fX0_83, oX0_117, cX0_c, nX0_0, vX0_0, vX0_1, nX0_2, vX0_2, nX0_3, vX0_3, vX0_4, vX0_5, vX0_6, nX0_7, vX0_7, vX0_8, vX0_9, vX0_10, vX0_11, vX0_12, vX0_13, vX0_14, lX0_1, aX0_1, lX0_2, aX0_2, lX0_3, aX0_3, lX0_4, aX0_4, lX0_5, aX0_5, lX0_6, aX0_6, lX0_7, aX0_7, lX0_8, aX0_8, lX0_9, rX0_9, lX0_10, rX0_10, lX0_11, aX0_11, gX0_n, vX0_sumOfPoints_0, vX0_sumOfPoints_1, vX0_sumOfPoints_2, vX0_sumOfPoints_3, vX0_sumOfPoints_4, vX0_sumOfPoints_5, vX0_sumOfPoints_6, vX0_sumOfPoints_9, vX0_sumOfPoints_12, vX0_sumOfPoints_13, vX0_sumOfPoints_14, vX0_sumOfPoints_17, vX0_sumOfPoints_20, vX0_sumOfPoints_21, vX0_sumOfPoints_22, vX0_sumOfPoints_25, vX0_sumOfPoints_26, vX0_sumOfPoints_27, vX0_sumOfPoints_28, vX0_sumOfPoints_29, vX0_sumOfPoints_32, vX0_sumOfPoints_35, vX0_sumOfPoints_36, Nat.reduceAdd, Nat.reduceSub, Nat.reduceBEq, Nat.reduceEqDiff, Nat.reduceLeDiff, Int.reduceAdd, Int.reduceSub, Int.reduceNeg, Int.reduceToNat, Int.reduceLE, Int.reduceLT, Int.zero_add, Nat.zero_add, List.toList_toArray, Option.map_some, Bool.or_false, Bool.or_true, Bool.false_or, Bool.true_or, Bool.or_self, cond_false, cond_true, List.length_cons, List.length_nil, true_and, and_true, forall_eq, forall_eq_apply_imp_iff, and_imp, ite_true, ite_false, reduceIte, true_or, or_true, false_or, or_false, false_and, and_false, eq_self, List.drop_succ_cons, List.drop_zero, List.zip_cons_cons, List.zip_nil_right, List.all_cons, List.all_nil, false_implies, true_implies, Bool.true_eq_false, Bool.false_eq_true, not_false_eq_true, not_true_eq_false, mx_u, mx_u2, mx_b0, mx_b1, Bool.not_eq_false, Bool.not_eq_true, Nat.le_refl, ne_eq, mG, mF, mGv, Int32.add_sub_cancel, spX0_sumOfPoints, spX0_has, mArg]
    exact key
  · refine mWalk hX [4] 40 ?_
    simp only [mRun, mCut, mAt, mSet, mArgs, mFind, mLdI, mLdA, mStI, mInc, mBin, mDiv, mJ1, mJ2, mN1, mN2, mGet, mPut, mLdE, mStE, mLdR, mKon, mDup, mDup2, mAft, mCaV, mCaS, mRetI, mRetV, fX0_18, fX0_21, fX0_24, fX0_27, fX0_30, fX0_33, fX0_36, fX0_39, fX0_44, fX0_47, fX0_50, fX0_53, fX0_57, fX0_60, fX0_83, oX0_117, cX0_c, nX0_0, vX0_0, vX0_1, nX0_2, vX0_2, nX0_3, vX0_3, vX0_4, vX0_5, vX0_6, nX0_7, vX0_7, vX0_8, vX0_9, vX0_10, vX0_11, vX0_12, vX0_13, vX0_14, lX0_1, aX0_1, lX0_2, aX0_2, lX0_3, aX0_3, lX0_4, aX0_4, lX0_5, aX0_5, lX0_6, aX0_6, lX0_7, aX0_7, lX0_8, aX0_8, lX0_9, rX0_9, lX0_10, rX0_10, lX0_11, aX0_11, gX0_n, vX0_sumOfPoints_0, vX0_sumOfPoints_1, vX0_sumOfPoints_2, vX0_sumOfPoints_3, vX0_sumOfPoints_4, vX0_sumOfPoints_5, vX0_sumOfPoints_6, vX0_sumOfPoints_9, vX0_sumOfPoints_12, vX0_sumOfPoints_13, vX0_sumOfPoints_14, vX0_sumOfPoints_17, vX0_sumOfPoints_20, vX0_sumOfPoints_21, vX0_sumOfPoints_22, vX0_sumOfPoints_25, vX0_sumOfPoints_26, vX0_sumOfPoints_27, vX0_sumOfPoints_28, vX0_sumOfPoints_29, vX0_sumOfPoints_32, vX0_sumOfPoints_35, vX0_sumOfPoints_36, Nat.reduceAdd, Nat.reduceSub, Nat.reduceBEq, Nat.reduceEqDiff, Nat.reduceLeDiff, Int.reduceAdd, Int.reduceSub, Int.reduceNeg, Int.reduceToNat, Int.reduceLE, Int.reduceLT, Int.zero_add, Nat.zero_add, List.toList_toArray, Option.map_some, Bool.or_false, Bool.or_true, Bool.false_or, Bool.true_or, Bool.or_self, cond_false, cond_true, List.length_cons, List.length_nil, true_and, and_true, forall_eq, forall_eq_apply_imp_iff, and_imp, ite_true, ite_false, reduceIte, true_or, or_true, false_or, or_false, false_and, and_false, eq_self, List.drop_succ_cons, List.drop_zero, List.zip_cons_cons, List.zip_nil_right, List.all_cons, List.all_nil, false_implies, true_implies, Bool.true_eq_false, Bool.false_eq_true, not_false_eq_true, not_true_eq_false, mx_u, mx_u2, mx_b0, mx_b1, Bool.not_eq_false, Bool.not_eq_true, Nat.le_refl, ne_eq, mG, mF, mGv, Int32.add_sub_cancel, spX0_sumOfPoints, spX0_has, mArg, ht, Int32.le_refl]
  · intro i hi ih
    have c1 : ¬ nI (cTn σ) ≤ nI i := nI_ge hi (by omega)
    obtain ⟨v1, e1⟩ := nI_i (j := i) (n := 12) (by omega) (by omega)
    refine mWalk hX [4] 40 ?_
    simp only [mRun, mCut, mAt, mSet, mArgs, mFind, mLdI, mLdA, mStI, mInc, mBin, mDiv, mJ1, mJ2, mN1, mN2, mGet, mPut, mLdE, mStE, mLdR, mKon, mDup, mDup2, mAft, mCaV, mCaS, mRetI, mRetV, fX0_18, fX0_21, fX0_24, fX0_27, fX0_30, fX0_33, fX0_36, fX0_39, fX0_44, fX0_47, fX0_50, fX0_53, fX0_57, fX0_60, fX0_83, oX0_117, cX0_c, nX0_0, vX0_0, vX0_1, nX0_2, vX0_2, nX0_3, vX0_3, vX0_4, vX0_5, vX0_6, nX0_7, vX0_7, vX0_8, vX0_9, vX0_10, vX0_11, vX0_12, vX0_13, vX0_14, lX0_1, aX0_1, lX0_2, aX0_2, lX0_3, aX0_3, lX0_4, aX0_4, lX0_5, aX0_5, lX0_6, aX0_6, lX0_7, aX0_7, lX0_8, aX0_8, lX0_9, rX0_9, lX0_10, rX0_10, lX0_11, aX0_11, gX0_n, vX0_sumOfPoints_0, vX0_sumOfPoints_1, vX0_sumOfPoints_2, vX0_sumOfPoints_3, vX0_sumOfPoints_4, vX0_sumOfPoints_5, vX0_sumOfPoints_6, vX0_sumOfPoints_9, vX0_sumOfPoints_12, vX0_sumOfPoints_13, vX0_sumOfPoints_14, vX0_sumOfPoints_17, vX0_sumOfPoints_20, vX0_sumOfPoints_21, vX0_sumOfPoints_22, vX0_sumOfPoints_25, vX0_sumOfPoints_26, vX0_sumOfPoints_27, vX0_sumOfPoints_28, vX0_sumOfPoints_29, vX0_sumOfPoints_32, vX0_sumOfPoints_35, vX0_sumOfPoints_36, Nat.reduceAdd, Nat.reduceSub, Nat.reduceBEq, Nat.reduceEqDiff, Nat.reduceLeDiff, Int.reduceAdd, Int.reduceSub, Int.reduceNeg, Int.reduceToNat, Int.reduceLE, Int.reduceLT, Int.zero_add, Nat.zero_add, List.toList_toArray, Option.map_some, Bool.or_false, Bool.or_true, Bool.false_or, Bool.true_or, Bool.or_self, cond_false, cond_true, List.length_cons, List.length_nil, true_and, and_true, forall_eq, forall_eq_apply_imp_iff, and_imp, ite_true, ite_false, reduceIte, true_or, or_true, false_or, or_false, false_and, and_false, eq_self, List.drop_succ_cons, List.drop_zero, List.zip_cons_cons, List.zip_nil_right, List.all_cons, List.all_nil, false_implies, true_implies, Bool.true_eq_false, Bool.false_eq_true, not_false_eq_true, not_true_eq_false, mx_u, mx_u2, mx_b0, mx_b1, Bool.not_eq_false, Bool.not_eq_true, Nat.le_refl, ne_eq, mG, mF, mGv, Int32.add_sub_cancel, spX0_sumOfPoints, spX0_has, mArg, ht, c1, v1, e1, nI_1]
    refine ⟨fun h1 => ?_, fun h1 => ?_⟩
    · simpa [sumF, smN, h1] using ih
    · simpa [sumF, smN, h1] using ih
set_option maxRecDepth 100000 in
theorem okX0_140 {d : Nat} (hd : 1 + 1 ≤ d) : mOK hX0 0 15 vwC RX0 RX0 d 140 spX0_sumOfPoints := ⟨yX0_sumOfPoints, cX0_sumOfPoints, 4, (some .int), 1, ctX0_sumOfPoints, hd, by decide, by decide +kernel, by decide +kernel, by decide +kernel, by decide +kernel, fun h => (by cases h), fun _ => ⟨by decide +kernel, by decide +kernel⟩⟩
def spX0_mayPutUp : mC := mF 1 false (fun σ xs => cOk σ ∧ isInF (mArg xs 0) 0 7 = true) (fun σ xs => cMay σ (mArg xs 0))
set_option maxHeartbeats 8000000 in
set_option maxRecDepth 100000 in
theorem ctX0_mayPutUp : mCt hX0 0 15 vwC yX0_mayPutUp cX0_mayPutUp 4 (some .int) 2 spX0_mayPutUp := by
  refine mMeet (k := (kX0 [(125, spX0_takenBy), (146, spX0_daysTired)])) (bl := 0) (own := RX0) (C := RX0) (T := TX0) (ty0 := tyX0) (by decide +kernel) rfl (tbX0 _) (mCal_cons (okX0_125 (by decide)) (mCal_cons (okX0_146 (by decide)) mCal_nil)) (Or.inl ⟨rfl, rfl, rfl⟩) (by decide) ?_
  intro σ xs hlen hpre X hX
  obtain ⟨a0, rfl⟩ := mx_l1 xs hlen
  change X (0, [some (.ref 0), some (.int a0), none, none], [], σ)
  obtain ⟨hok, hp⟩ : cOk σ ∧ isInF a0 0 7 = true := hpre
  obtain ⟨ht, hn⟩ := hok.1
  obtain ⟨p, hp1, rfl, -, hp3⟩ := mPers_ix hp
  obtain ⟨d, hd, hde⟩ := hok.2.2.2.2.1
  have key := mFor (X := X) (cTn σ) (fun i => (15, [some (.ref 0), some (.int (nI p)), some (.int (mayF (fun x => σ.2 (20 + p) x) (σ.1 0) (σ.1 3 &&& (cTak σ (nI p) ^^^ (-1))) i)), some (.int (nI i))], [], σ)) ?_ ?_ 0 (Nat.zero_le _)
  · refine mWalk hX [15] 40 ?_
    simp only [mRun, mCut, mAt, mSet, mArgs, mFind, mLdI, mLdA, mStI, mInc, mBin, mDiv, mJ1, mJ2, mN1, mN2, mGet, mPut, mLdE, mStE, mLdR, mKon, mDup, mDup2, mAft, mCaV, mCaS, mRetI, mRetV, fX0_18, fX0_21, fX0_24, fX0_27, fX0_30, fX0_33, fX0_36, fX0_39, fX0_44, fX0_47, fX0_50, fX0_53, fX0_57, fX0_60, fX0_83, oX0_117, cX0_c, nX0_0, vX0_0, vX0_1, nX0_2, vX0_2, nX0_3, vX0_3, vX0_4, vX0_5, vX0_6, nX0_7, vX0_7, vX0_8, vX0_9, vX0_10, vX0_11, vX0_12, vX0_13, vX0_14, lX0_1, aX0_1, lX0_2, aX0_2, lX0_3, aX0_3, lX0_4, aX0_4, lX0_5, aX0_5, lX0_6, aX0_6, lX0_7, aX0_7, lX0_8, aX0_8, lX0_9, rX0_9, lX0_10, rX0_10, lX0_11, aX0_11, gX0_n, vX0_mayPutUp_0, vX0_mayPutUp_1, vX0_mayPutUp_4, vX0_mayPutUp_5, vX0_mayPutUp_6, vX0_mayPutUp_9, vX0_mayPutUp_10, vX0_mayPutUp_11, vX0_mayPutUp_12, vX0_mayPutUp_13, vX0_mayPutUp_14, vX0_mayPutUp_15, vX0_mayPutUp_16, vX0_mayPutUp_17, vX0_mayPutUp_20, vX0_mayPutUp_23, vX0_mayPutUp_24, vX0_mayPutUp_25, vX0_mayPutUp_26, vX0_mayPutUp_29, vX0_mayPutUp_32, vX0_mayPutUp_33, vX0_mayPutUp_34, vX0_mayPutUp_35, vX0_mayPutUp_36, vX0_mayPutUp_37, vX0_mayPutUp_38, vX0_mayPutUp_39, vX0_mayPutUp_40, vX0_mayPutUp_43, vX0_mayPutUp_46, vX0_mayPutUp_47, Nat.reduceAdd, Nat.reduceSub, Nat.reduceBEq, Nat.reduceEqDiff, Nat.reduceLeDiff, Int.reduceAdd, Int.reduceSub, Int.reduceNeg, Int.reduceToNat, Int.reduceLE, Int.reduceLT, Int.zero_add, Nat.zero_add, List.toList_toArray, Option.map_some, Bool.or_false, Bool.or_true, Bool.false_or, Bool.true_or, Bool.or_self, cond_false, cond_true, List.length_cons, List.length_nil, true_and, and_true, forall_eq, forall_eq_apply_imp_iff, and_imp, ite_true, ite_false, reduceIte, true_or, or_true, false_or, or_false, false_and, and_false, eq_self, List.drop_succ_cons, List.drop_zero, List.zip_cons_cons, List.zip_nil_right, List.all_cons, List.all_nil, false_implies, true_implies, Bool.true_eq_false, Bool.false_eq_true, not_false_eq_true, not_true_eq_false, mx_u, mx_u2, mx_b0, mx_b1, Bool.not_eq_false, Bool.not_eq_true, Nat.le_refl, ne_eq, mG, mF, mGv, Int32.add_sub_cancel, spX0_mayPutUp, spX0_takenBy, spX0_daysTired, mArg, hok]
    exact key
  · refine mWalk hX [15] 40 ?_
    simp only [mRun, mCut, mAt, mSet, mArgs, mFind, mLdI, mLdA, mStI, mInc, mBin, mDiv, mJ1, mJ2, mN1, mN2, mGet, mPut, mLdE, mStE, mLdR, mKon, mDup, mDup2, mAft, mCaV, mCaS, mRetI, mRetV, fX0_18, fX0_21, fX0_24, fX0_27, fX0_30, fX0_33, fX0_36, fX0_39, fX0_44, fX0_47, fX0_50, fX0_53, fX0_57, fX0_60, fX0_83, oX0_117, cX0_c, nX0_0, vX0_0, vX0_1, nX0_2, vX0_2, nX0_3, vX0_3, vX0_4, vX0_5, vX0_6, nX0_7, vX0_7, vX0_8, vX0_9, vX0_10, vX0_11, vX0_12, vX0_13, vX0_14, lX0_1, aX0_1, lX0_2, aX0_2, lX0_3, aX0_3, lX0_4, aX0_4, lX0_5, aX0_5, lX0_6, aX0_6, lX0_7, aX0_7, lX0_8, aX0_8, lX0_9, rX0_9, lX0_10, rX0_10, lX0_11, aX0_11, gX0_n, vX0_mayPutUp_0, vX0_mayPutUp_1, vX0_mayPutUp_4, vX0_mayPutUp_5, vX0_mayPutUp_6, vX0_mayPutUp_9, vX0_mayPutUp_10, vX0_mayPutUp_11, vX0_mayPutUp_12, vX0_mayPutUp_13, vX0_mayPutUp_14, vX0_mayPutUp_15, vX0_mayPutUp_16, vX0_mayPutUp_17, vX0_mayPutUp_20, vX0_mayPutUp_23, vX0_mayPutUp_24, vX0_mayPutUp_25, vX0_mayPutUp_26, vX0_mayPutUp_29, vX0_mayPutUp_32, vX0_mayPutUp_33, vX0_mayPutUp_34, vX0_mayPutUp_35, vX0_mayPutUp_36, vX0_mayPutUp_37, vX0_mayPutUp_38, vX0_mayPutUp_39, vX0_mayPutUp_40, vX0_mayPutUp_43, vX0_mayPutUp_46, vX0_mayPutUp_47, Nat.reduceAdd, Nat.reduceSub, Nat.reduceBEq, Nat.reduceEqDiff, Nat.reduceLeDiff, Int.reduceAdd, Int.reduceSub, Int.reduceNeg, Int.reduceToNat, Int.reduceLE, Int.reduceLT, Int.zero_add, Nat.zero_add, List.toList_toArray, Option.map_some, Bool.or_false, Bool.or_true, Bool.false_or, Bool.true_or, Bool.or_self, cond_false, cond_true, List.length_cons, List.length_nil, true_and, and_true, forall_eq, forall_eq_apply_imp_iff, and_imp, ite_true, ite_false, reduceIte, true_or, or_true, false_or, or_false, false_and, and_false, eq_self, List.drop_succ_cons, List.drop_zero, List.zip_cons_cons, List.zip_nil_right, List.all_cons, List.all_nil, false_implies, true_implies, Bool.true_eq_false, Bool.false_eq_true, not_false_eq_true, not_true_eq_false, mx_u, mx_u2, mx_b0, mx_b1, Bool.not_eq_false, Bool.not_eq_true, Nat.le_refl, ne_eq, mG, mF, mGv, Int32.add_sub_cancel, spX0_mayPutUp, spX0_takenBy, spX0_daysTired, mArg, ht, Int32.le_refl, cMay, hp3]
  · intro i hi ih
    have c1 : ¬ nI (cTn σ) ≤ nI i := nI_ge hi (by omega)
    have e1 : (nI i).toNatClampNeg = i := nI_clamp (by omega)
    have h2 : cIx (nI i) := ⟨i, by omega, rfl⟩
    obtain ⟨v, hv, hve⟩ := hok.2.2.2.2.2.2 p i hp1 (by omega)
    have ht1 : cTir σ p i ≤ 0 ↔ ¬ σ.1 0 < σ.2 (20 + p) i := by
      unfold cTir
      rw [hve, hde]
      by_cases q : nI d < nI v
      · rw [if_pos q]; exact tired_pos hv hd
      · rw [if_neg q]; exact ⟨fun _ => q, fun _ => Int32.le_refl _⟩
    refine mWalk hX [15] 40 ?_
    simp only [mRun, mCut, mAt, mSet, mArgs, mFind, mLdI, mLdA, mStI, mInc, mBin, mDiv, mJ1, mJ2, mN1, mN2, mGet, mPut, mLdE, mStE, mLdR, mKon, mDup, mDup2, mAft, mCaV, mCaS, mRetI, mRetV, fX0_18, fX0_21, fX0_24, fX0_27, fX0_30, fX0_33, fX0_36, fX0_39, fX0_44, fX0_47, fX0_50, fX0_53, fX0_57, fX0_60, fX0_83, oX0_117, cX0_c, nX0_0, vX0_0, vX0_1, nX0_2, vX0_2, nX0_3, vX0_3, vX0_4, vX0_5, vX0_6, nX0_7, vX0_7, vX0_8, vX0_9, vX0_10, vX0_11, vX0_12, vX0_13, vX0_14, lX0_1, aX0_1, lX0_2, aX0_2, lX0_3, aX0_3, lX0_4, aX0_4, lX0_5, aX0_5, lX0_6, aX0_6, lX0_7, aX0_7, lX0_8, aX0_8, lX0_9, rX0_9, lX0_10, rX0_10, lX0_11, aX0_11, gX0_n, vX0_mayPutUp_0, vX0_mayPutUp_1, vX0_mayPutUp_4, vX0_mayPutUp_5, vX0_mayPutUp_6, vX0_mayPutUp_9, vX0_mayPutUp_10, vX0_mayPutUp_11, vX0_mayPutUp_12, vX0_mayPutUp_13, vX0_mayPutUp_14, vX0_mayPutUp_15, vX0_mayPutUp_16, vX0_mayPutUp_17, vX0_mayPutUp_20, vX0_mayPutUp_23, vX0_mayPutUp_24, vX0_mayPutUp_25, vX0_mayPutUp_26, vX0_mayPutUp_29, vX0_mayPutUp_32, vX0_mayPutUp_33, vX0_mayPutUp_34, vX0_mayPutUp_35, vX0_mayPutUp_36, vX0_mayPutUp_37, vX0_mayPutUp_38, vX0_mayPutUp_39, vX0_mayPutUp_40, vX0_mayPutUp_43, vX0_mayPutUp_46, vX0_mayPutUp_47, Nat.reduceAdd, Nat.reduceSub, Nat.reduceBEq, Nat.reduceEqDiff, Nat.reduceLeDiff, Int.reduceAdd, Int.reduceSub, Int.reduceNeg, Int.reduceToNat, Int.reduceLE, Int.reduceLT, Int.zero_add, Nat.zero_add, List.toList_toArray, Option.map_some, Bool.or_false, Bool.or_true, Bool.false_or, Bool.true_or, Bool.or_self, cond_false, cond_true, List.length_cons, List.length_nil, true_and, and_true, forall_eq, forall_eq_apply_imp_iff, and_imp, ite_true, ite_false, reduceIte, true_or, or_true, false_or, or_false, false_and, and_false, eq_self, List.drop_succ_cons, List.drop_zero, List.zip_cons_cons, List.zip_nil_right, List.all_cons, List.all_nil, false_implies, true_implies, Bool.true_eq_false, Bool.false_eq_true, not_false_eq_true, not_true_eq_false, mx_u, mx_u2, mx_b0, mx_b1, Bool.not_eq_false, Bool.not_eq_true, Nat.le_refl, ne_eq, mG, mF, mGv, Int32.add_sub_cancel, spX0_mayPutUp, spX0_takenBy, spX0_daysTired, mArg, ht, c1, hok, hp, h2, hp3, e1, ht1, nI_1]
    refine ⟨fun h1 => ?_, fun h1 => ?_⟩
    · simpa [mayF, h1] using ih
    · have h3 : σ.1 0 < σ.2 (20 + p) i := Classical.byContradiction h1
      simpa [mayF, h3] using ih
set_option maxRecDepth 100000 in
theorem okX0_131 {d : Nat} (hd : 2 + 1 ≤ d) : mOK hX0 0 15 vwC RX0 RX0 d 131 spX0_mayPutUp := ⟨yX0_mayPutUp, cX0_mayPutUp, 4, (some .int), 2, ctX0_mayPutUp, hd, by decide, by decide +kernel, by decide +kernel, by decide +kernel, by decide +kernel, fun h => (by cases h), fun _ => ⟨by decide +kernel, by decide +kernel⟩⟩
