theorem bt_nI {n k : Nat} (hk : k < 32) : bt (nI n) k = n.testBit k := by
  show (BitVec.ofNat 32 n).getLsbD k = _
  rw [BitVec.getLsbD_ofNat]
  simp [hk]
theorem all_m1 {t : Nat} (ht : t ≤ 12) : (1 : Int32) <<< (nI t &&& 31) - 1 = nI (2 ^ t - 1) := by
  rw [sh1_pow ht]
  exact pk_sub (b := 1) (pow12 ht).1
theorem bt_all {t k : Nat} (hk : k < 32) : bt (nI (2 ^ t - 1)) k = decide (k < t) := by
  rw [bt_nI hk, Nat.testBit_two_pow_sub_one]
/-- a set of things is a number under 2 to the t -/
theorem setOk_iff {t : Nat} (ht : t ≤ 12) {s : Int32} : setOkF (nI (2 ^ t - 1)) s = true ↔ ∃ m, m < 2 ^ t ∧ s = nI m := by
  unfold setOkF
  rw [decide_eq_true_eq]
  constructor
  · intro h
    have hz : ∀ k, t ≤ k → k < 32 → bt s k = false := by
      intro k h1 h2
      have := congrArg (fun z => bt z k) h
      simp only [b_and, b_xor, bt_all h2, b_m1 k h2, b_0] at this
      simpa [Nat.not_lt.mpr h1] using this
    refine ⟨s.toBitVec.toNat, ?_, ?_⟩
    · refine Nat.lt_pow_two_of_testBit _ (fun i hi => ?_)
      by_cases h2 : i < 32
      · exact hz i hi h2
      · exact b_big (x := s) (by omega)
    · apply Int32.toBitVec_inj.mp
      show s.toBitVec = BitVec.ofNat 32 s.toBitVec.toNat
      simp
  · rintro ⟨m, hm, rfl⟩
    refine b_ext (fun k hk => ?_)
    rw [b_and, b_xor, bt_all hk, b_m1 k hk, b_0, bt_nI hk]
    by_cases h : k < t
    · simp [h]
    · have : m.testBit k = false := Nat.testBit_lt_two_pow (Nat.lt_of_lt_of_le hm (Nat.pow_le_pow_right (by decide) (by omega)))
      simp [this]
theorem set_in {t : Nat} (ht : t ≤ 12) {s : Int32} : isInF s 1 (nI (2 ^ t - 1)) = true ↔ ∃ m, 0 < m ∧ m < 2 ^ t ∧ s = nI m := by
  have hp := pow12 ht
  unfold isInF
  rw [Bool.and_eq_true, decide_eq_true_eq, decide_eq_true_eq]
  constructor
  · rintro ⟨h1, h2⟩
    rw [Int32.le_iff_toInt_le, show (1 : Int32).toInt = 1 from rfl] at h1
    obtain ⟨m, hm, rfl⟩ := nI_of (x := s) (by rw [Int32.lt_iff_toInt_lt, Int32.toInt_zero]; omega)
    rw [nI_toInt hm] at h1
    rw [nI_leI hm (by omega)] at h2
    exact ⟨m, by omega, by omega, rfl⟩
  · rintro ⟨m, h0, hm, rfl⟩
    exact ⟨nI_le (a := 1) (by omega) (by omega), nI_le (by omega) (by omega)⟩
def cBaskS (σ : mS) (p : Nat) (set : Int32) : mS := cClr (upd σ.1 7 (σ.1 7 + 1), up2 (up2 (up2 σ.2 5 (cBn σ) (nI p)) 6 (cBn σ) (σ.1 0)) 7 (cBn σ) set) p set
def cBasketF (σ : mS) (p set : Int32) : Int32 × mS := if isInF p 0 7 = true ∧ isInF set 1 ((1 : Int32) <<< (σ.1 2 &&& 31) - 1) = true ∧ ¬ σ.1 7 = 60 then (σ.1 7, cBaskS σ p.toNatClampNeg set) else (-1, σ)
def spX0_basket : mC := mG 2 false (fun σ _ => cOk σ) (fun σ xs => cBasketF σ (mArg xs 0) (mArg xs 1))
set_option maxHeartbeats 8000000 in
set_option maxRecDepth 100000 in
theorem ctX0_basket : mCt hX0 0 15 vwC yX0_basket cX0_basket 4 (some .int) 2 spX0_basket := by
  refine mMeet (k := (kX0 [(77, spX0_isPerson), (80, spX0_isSetOfThings), (86, spX0_clearShown)])) (bl := 0) (own := RX0) (C := RX0) (T := TX0) (ty0 := tyX0) (by decide +kernel) rfl (tbX0 _) (mCal_cons (okX0_77 (by decide)) (mCal_cons (okX0_80 (by decide)) (mCal_cons (okX0_86 (by decide)) mCal_nil))) (Or.inl ⟨rfl, rfl, rfl⟩) (by decide) ?_
  intro σ xs hlen hpre X hX
  obtain ⟨a0, a1, rfl⟩ := mx_l2 xs hlen
  change X (0, [some (.ref 0), some (.int a0), some (.int a1), none], [], σ)
  have hok : cOk σ := hpre
  obtain ⟨ht, hn⟩ := hok.1
  obtain ⟨hb, hm⟩ := hok.2.1
  have hall : (1 : Int32) <<< (σ.1 2 &&& 31) - 1 = nI (2 ^ cTn σ - 1) := by rw [ht]; exact all_m1 hn
  have c60 : σ.1 7 < 60 ↔ ¬ σ.1 7 = 60 := by
    rw [hb, show (60 : Int32) = nI 60 from rfl, nI_ltI (by omega) (by omega), nI_eq (by omega) (by omega)]
    omega
  by_cases hp : isInF a0 0 7 = true
  · obtain ⟨p, hp1, rfl, hp2, hp3⟩ := mPers_ix hp
    by_cases hs : isInF a1 1 ((1 : Int32) <<< (σ.1 2 &&& 31) - 1) = true
    · obtain ⟨m, hm0, hm1, hme⟩ := (set_in hn).mp (hall ▸ hs)
      have hpw := pow12 hn
      have g1 : setOkF ((1 : Int32) <<< (σ.1 2 &&& 31) - 1) a1 = true := by rw [hall]; exact (setOk_iff hn).mpr ⟨m, hm1, hme⟩
      have g2 : ¬ a1 = 0 := by rw [hme]; exact nI_ne0 hm0 (by omega)
      by_cases h6 : σ.1 7 = 60
      · have h7 : ¬ σ.1 7 < 60 := fun q => c60.mp q h6
        refine mWalk hX [] 60 ?_
        simp only [mRun, mCut, mAt, mSet, mArgs, mFind, mLdI, mLdA, mStI, mInc, mBin, mDiv, mJ1, mJ2, mN1, mN2, mGet, mPut, mLdE, mStE, mLdR, mKon, mDup, mDup2, mAft, mCaV, mCaS, mRetI, mRetV, fX0_18, fX0_21, fX0_24, fX0_27, fX0_30, fX0_33, fX0_36, fX0_39, fX0_44, fX0_47, fX0_50, fX0_53, fX0_57, fX0_60, fX0_83, oX0_117, cX0_c, nX0_0, vX0_0, vX0_1, nX0_2, vX0_2, nX0_3, vX0_3, vX0_4, vX0_5, vX0_6, nX0_7, vX0_7, vX0_8, vX0_9, vX0_10, vX0_11, vX0_12, vX0_13, vX0_14, lX0_1, aX0_1, lX0_2, aX0_2, lX0_3, aX0_3, lX0_4, aX0_4, lX0_5, aX0_5, lX0_6, aX0_6, lX0_7, aX0_7, lX0_8, aX0_8, lX0_9, rX0_9, lX0_10, rX0_10, lX0_11, aX0_11, gX0_n, vX0_basket_0, vX0_basket_1, vX0_basket_4, vX0_basket_7, vX0_basket_8, vX0_basket_9, vX0_basket_12, vX0_basket_15, vX0_basket_16, vX0_basket_19, vX0_basket_20, vX0_basket_23, vX0_basket_25, vX0_basket_28, vX0_basket_29, vX0_basket_30, vX0_basket_31, vX0_basket_34, vX0_basket_35, vX0_basket_36, vX0_basket_37, vX0_basket_40, vX0_basket_41, vX0_basket_42, vX0_basket_45, vX0_basket_46, vX0_basket_49, vX0_basket_50, vX0_basket_51, vX0_basket_52, vX0_basket_53, vX0_basket_56, vX0_basket_57, vX0_basket_58, vX0_basket_61, vX0_basket_62, vX0_basket_63, vX0_basket_66, vX0_basket_67, vX0_basket_68, vX0_basket_69, vX0_basket_70, vX0_basket_71, vX0_basket_72, vX0_basket_75, vX0_basket_76, Nat.reduceAdd, Nat.reduceSub, Nat.reduceBEq, Nat.reduceEqDiff, Nat.reduceLeDiff, Int.reduceAdd, Int.reduceSub, Int.reduceNeg, Int.reduceToNat, Int.reduceLE, Int.reduceLT, Int.zero_add, Nat.zero_add, List.toList_toArray, Option.map_some, Bool.or_false, Bool.or_true, Bool.false_or, Bool.true_or, Bool.or_self, cond_false, cond_true, List.length_cons, List.length_nil, true_and, and_true, forall_eq, forall_eq_apply_imp_iff, and_imp, ite_true, ite_false, reduceIte, true_or, or_true, false_or, or_false, false_and, and_false, eq_self, List.drop_succ_cons, List.drop_zero, List.zip_cons_cons, List.zip_nil_right, List.all_cons, List.all_nil, false_implies, true_implies, Bool.true_eq_false, Bool.false_eq_true, not_false_eq_true, not_true_eq_false, mx_u, mx_u2, mx_b0, mx_b1, Bool.not_eq_false, Bool.not_eq_true, Nat.le_refl, ne_eq, mG, mF, mGv, Int32.add_sub_cancel, spX0_basket, spX0_isPerson, spX0_isSetOfThings, spX0_clearShown, mArg, hp, g1, g2, h7]
        simp [cBasketF, h6]
      · have h7 : σ.1 7 < 60 := c60.mpr h6
        have hb6 : ¬ cBn σ = 60 := fun q => h6 (by rw [hb, q]; rfl)
        have v1 : vp_in (σ.1 7) 60 := by rw [hb]; exact (nI_i (by omega) (by omega)).1
        have e1 : (σ.1 7).toNatClampNeg = cBn σ := rfl
        have q1 : (σ.1 2 = nI (cTn (upd σ.1 7 (σ.1 7 + 1), up2 (up2 (up2 σ.2 5 (cBn σ) (nI p)) 6 (cBn σ) (σ.1 0)) 7 (cBn σ) a1))) = True := eq_true ht
        have q2 : (cTn (upd σ.1 7 (σ.1 7 + 1), up2 (up2 (up2 σ.2 5 (cBn σ) (nI p)) 6 (cBn σ) (σ.1 0)) 7 (cBn σ) a1) ≤ 12) = True := eq_true hn
        have e3 : cBasketF σ (nI p) a1 = (σ.1 7, cClr (upd σ.1 7 (σ.1 7 + 1), up2 (up2 (up2 σ.2 5 (cBn σ) (nI p)) 6 (cBn σ) (σ.1 0)) 7 (cBn σ) a1) p a1) := by
          unfold cBasketF
          rw [if_pos ⟨hp, hs, h6⟩, hp3]
          rfl
        refine mWalk hX [] 80 ?_
        simp only [mRun, mCut, mAt, mSet, mArgs, mFind, mLdI, mLdA, mStI, mInc, mBin, mDiv, mJ1, mJ2, mN1, mN2, mGet, mPut, mLdE, mStE, mLdR, mKon, mDup, mDup2, mAft, mCaV, mCaS, mRetI, mRetV, fX0_18, fX0_21, fX0_24, fX0_27, fX0_30, fX0_33, fX0_36, fX0_39, fX0_44, fX0_47, fX0_50, fX0_53, fX0_57, fX0_60, fX0_83, oX0_117, cX0_c, nX0_0, vX0_0, vX0_1, nX0_2, vX0_2, nX0_3, vX0_3, vX0_4, vX0_5, vX0_6, nX0_7, vX0_7, vX0_8, vX0_9, vX0_10, vX0_11, vX0_12, vX0_13, vX0_14, lX0_1, aX0_1, lX0_2, aX0_2, lX0_3, aX0_3, lX0_4, aX0_4, lX0_5, aX0_5, lX0_6, aX0_6, lX0_7, aX0_7, lX0_8, aX0_8, lX0_9, rX0_9, lX0_10, rX0_10, lX0_11, aX0_11, gX0_n, vX0_basket_0, vX0_basket_1, vX0_basket_4, vX0_basket_7, vX0_basket_8, vX0_basket_9, vX0_basket_12, vX0_basket_15, vX0_basket_16, vX0_basket_19, vX0_basket_20, vX0_basket_23, vX0_basket_25, vX0_basket_28, vX0_basket_29, vX0_basket_30, vX0_basket_31, vX0_basket_34, vX0_basket_35, vX0_basket_36, vX0_basket_37, vX0_basket_40, vX0_basket_41, vX0_basket_42, vX0_basket_45, vX0_basket_46, vX0_basket_49, vX0_basket_50, vX0_basket_51, vX0_basket_52, vX0_basket_53, vX0_basket_56, vX0_basket_57, vX0_basket_58, vX0_basket_61, vX0_basket_62, vX0_basket_63, vX0_basket_66, vX0_basket_67, vX0_basket_68, vX0_basket_69, vX0_basket_70, vX0_basket_71, vX0_basket_72, vX0_basket_75, vX0_basket_76, Nat.reduceAdd, Nat.reduceSub, Nat.reduceBEq, Nat.reduceEqDiff, Nat.reduceLeDiff, Int.reduceAdd, Int.reduceSub, Int.reduceNeg, Int.reduceToNat, Int.reduceLE, Int.reduceLT, Int.zero_add, Nat.zero_add, List.toList_toArray, Option.map_some, Bool.or_false, Bool.or_true, Bool.false_or, Bool.true_or, Bool.or_self, cond_false, cond_true, List.length_cons, List.length_nil, true_and, and_true, forall_eq, forall_eq_apply_imp_iff, and_imp, ite_true, ite_false, reduceIte, true_or, or_true, false_or, or_false, false_and, and_false, eq_self, List.drop_succ_cons, List.drop_zero, List.zip_cons_cons, List.zip_nil_right, List.all_cons, List.all_nil, false_implies, true_implies, Bool.true_eq_false, Bool.false_eq_true, not_false_eq_true, not_true_eq_false, mx_u, mx_u2, mx_b0, mx_b1, Bool.not_eq_false, Bool.not_eq_true, Nat.le_refl, ne_eq, mG, mF, mGv, Int32.add_sub_cancel, spX0_basket, spX0_isPerson, spX0_isSetOfThings, spX0_clearShown, mArg, hp, g1, g2, h7, v1, e1, q1, q2, hp3, e3]
    · have e3 : cBasketF σ (nI p) a1 = (-1, σ) := by unfold cBasketF; rw [if_neg (fun q => hs q.2.1)]
      refine mWalk hX [28] 60 ?_
      simp only [mRun, mCut, mAt, mSet, mArgs, mFind, mLdI, mLdA, mStI, mInc, mBin, mDiv, mJ1, mJ2, mN1, mN2, mGet, mPut, mLdE, mStE, mLdR, mKon, mDup, mDup2, mAft, mCaV, mCaS, mRetI, mRetV, fX0_18, fX0_21, fX0_24, fX0_27, fX0_30, fX0_33, fX0_36, fX0_39, fX0_44, fX0_47, fX0_50, fX0_53, fX0_57, fX0_60, fX0_83, oX0_117, cX0_c, nX0_0, vX0_0, vX0_1, nX0_2, vX0_2, nX0_3, vX0_3, vX0_4, vX0_5, vX0_6, nX0_7, vX0_7, vX0_8, vX0_9, vX0_10, vX0_11, vX0_12, vX0_13, vX0_14, lX0_1, aX0_1, lX0_2, aX0_2, lX0_3, aX0_3, lX0_4, aX0_4, lX0_5, aX0_5, lX0_6, aX0_6, lX0_7, aX0_7, lX0_8, aX0_8, lX0_9, rX0_9, lX0_10, rX0_10, lX0_11, aX0_11, gX0_n, vX0_basket_0, vX0_basket_1, vX0_basket_4, vX0_basket_7, vX0_basket_8, vX0_basket_9, vX0_basket_12, vX0_basket_15, vX0_basket_16, vX0_basket_19, vX0_basket_20, vX0_basket_23, vX0_basket_25, vX0_basket_28, vX0_basket_29, vX0_basket_30, vX0_basket_31, vX0_basket_34, vX0_basket_35, vX0_basket_36, vX0_basket_37, vX0_basket_40, vX0_basket_41, vX0_basket_42, vX0_basket_45, vX0_basket_46, vX0_basket_49, vX0_basket_50, vX0_basket_51, vX0_basket_52, vX0_basket_53, vX0_basket_56, vX0_basket_57, vX0_basket_58, vX0_basket_61, vX0_basket_62, vX0_basket_63, vX0_basket_66, vX0_basket_67, vX0_basket_68, vX0_basket_69, vX0_basket_70, vX0_basket_71, vX0_basket_72, vX0_basket_75, vX0_basket_76, Nat.reduceAdd, Nat.reduceSub, Nat.reduceBEq, Nat.reduceEqDiff, Nat.reduceLeDiff, Int.reduceAdd, Int.reduceSub, Int.reduceNeg, Int.reduceToNat, Int.reduceLE, Int.reduceLT, Int.zero_add, Nat.zero_add, List.toList_toArray, Option.map_some, Bool.or_false, Bool.or_true, Bool.false_or, Bool.true_or, Bool.or_self, cond_false, cond_true, List.length_cons, List.length_nil, true_and, and_true, forall_eq, forall_eq_apply_imp_iff, and_imp, ite_true, ite_false, reduceIte, true_or, or_true, false_or, or_false, false_and, and_false, eq_self, List.drop_succ_cons, List.drop_zero, List.zip_cons_cons, List.zip_nil_right, List.all_cons, List.all_nil, false_implies, true_implies, Bool.true_eq_false, Bool.false_eq_true, not_false_eq_true, not_true_eq_false, mx_u, mx_u2, mx_b0, mx_b1, Bool.not_eq_false, Bool.not_eq_true, Nat.le_refl, ne_eq, mG, mF, mGv, Int32.add_sub_cancel, spX0_basket, spX0_isPerson, spX0_isSetOfThings, spX0_clearShown, mArg, hp]
      have fin : X (28, [some (.ref 0), some (.int (nI p)), some (.int a1), none], [], σ) := by
        refine mWalk hX [] 60 ?_
        simp only [mRun, mCut, mAt, mSet, mArgs, mFind, mLdI, mLdA, mStI, mInc, mBin, mDiv, mJ1, mJ2, mN1, mN2, mGet, mPut, mLdE, mStE, mLdR, mKon, mDup, mDup2, mAft, mCaV, mCaS, mRetI, mRetV, fX0_18, fX0_21, fX0_24, fX0_27, fX0_30, fX0_33, fX0_36, fX0_39, fX0_44, fX0_47, fX0_50, fX0_53, fX0_57, fX0_60, fX0_83, oX0_117, cX0_c, nX0_0, vX0_0, vX0_1, nX0_2, vX0_2, nX0_3, vX0_3, vX0_4, vX0_5, vX0_6, nX0_7, vX0_7, vX0_8, vX0_9, vX0_10, vX0_11, vX0_12, vX0_13, vX0_14, lX0_1, aX0_1, lX0_2, aX0_2, lX0_3, aX0_3, lX0_4, aX0_4, lX0_5, aX0_5, lX0_6, aX0_6, lX0_7, aX0_7, lX0_8, aX0_8, lX0_9, rX0_9, lX0_10, rX0_10, lX0_11, aX0_11, gX0_n, vX0_basket_0, vX0_basket_1, vX0_basket_4, vX0_basket_7, vX0_basket_8, vX0_basket_9, vX0_basket_12, vX0_basket_15, vX0_basket_16, vX0_basket_19, vX0_basket_20, vX0_basket_23, vX0_basket_25, vX0_basket_28, vX0_basket_29, vX0_basket_30, vX0_basket_31, vX0_basket_34, vX0_basket_35, vX0_basket_36, vX0_basket_37, vX0_basket_40, vX0_basket_41, vX0_basket_42, vX0_basket_45, vX0_basket_46, vX0_basket_49, vX0_basket_50, vX0_basket_51, vX0_basket_52, vX0_basket_53, vX0_basket_56, vX0_basket_57, vX0_basket_58, vX0_basket_61, vX0_basket_62, vX0_basket_63, vX0_basket_66, vX0_basket_67, vX0_basket_68, vX0_basket_69, vX0_basket_70, vX0_basket_71, vX0_basket_72, vX0_basket_75, vX0_basket_76, Nat.reduceAdd, Nat.reduceSub, Nat.reduceBEq, Nat.reduceEqDiff, Nat.reduceLeDiff, Int.reduceAdd, Int.reduceSub, Int.reduceNeg, Int.reduceToNat, Int.reduceLE, Int.reduceLT, Int.zero_add, Nat.zero_add, List.toList_toArray, Option.map_some, Bool.or_false, Bool.or_true, Bool.false_or, Bool.true_or, Bool.or_self, cond_false, cond_true, List.length_cons, List.length_nil, true_and, and_true, forall_eq, forall_eq_apply_imp_iff, and_imp, ite_true, ite_false, reduceIte, true_or, or_true, false_or, or_false, false_and, and_false, eq_self, List.drop_succ_cons, List.drop_zero, List.zip_cons_cons, List.zip_nil_right, List.all_cons, List.all_nil, false_implies, true_implies, Bool.true_eq_false, Bool.false_eq_true, not_false_eq_true, not_true_eq_false, mx_u, mx_u2, mx_b0, mx_b1, Bool.not_eq_false, Bool.not_eq_true, Nat.le_refl, ne_eq, mG, mF, mGv, Int32.add_sub_cancel, spX0_basket, spX0_isPerson, spX0_isSetOfThings, spX0_clearShown, mArg, e3]
      refine ⟨fun _ => fin, fun h1 => ⟨fun _ => fin, fun h2 => ?_⟩⟩
      rw [hall] at h1
      obtain ⟨m, hm1, hme⟩ := (setOk_iff hn).mp h1
      refine absurd ?_ hs
      rw [hall]
      refine (set_in hn).mpr ⟨m, ?_, hm1, hme⟩
      rcases Nat.eq_zero_or_pos m with q | q
      · subst q; exact absurd hme h2
      · exact q
  · refine mWalk hX [] 60 ?_
    simp only [mRun, mCut, mAt, mSet, mArgs, mFind, mLdI, mLdA, mStI, mInc, mBin, mDiv, mJ1, mJ2, mN1, mN2, mGet, mPut, mLdE, mStE, mLdR, mKon, mDup, mDup2, mAft, mCaV, mCaS, mRetI, mRetV, fX0_18, fX0_21, fX0_24, fX0_27, fX0_30, fX0_33, fX0_36, fX0_39, fX0_44, fX0_47, fX0_50, fX0_53, fX0_57, fX0_60, fX0_83, oX0_117, cX0_c, nX0_0, vX0_0, vX0_1, nX0_2, vX0_2, nX0_3, vX0_3, vX0_4, vX0_5, vX0_6, nX0_7, vX0_7, vX0_8, vX0_9, vX0_10, vX0_11, vX0_12, vX0_13, vX0_14, lX0_1, aX0_1, lX0_2, aX0_2, lX0_3, aX0_3, lX0_4, aX0_4, lX0_5, aX0_5, lX0_6, aX0_6, lX0_7, aX0_7, lX0_8, aX0_8, lX0_9, rX0_9, lX0_10, rX0_10, lX0_11, aX0_11, gX0_n, vX0_basket_0, vX0_basket_1, vX0_basket_4, vX0_basket_7, vX0_basket_8, vX0_basket_9, vX0_basket_12, vX0_basket_15, vX0_basket_16, vX0_basket_19, vX0_basket_20, vX0_basket_23, vX0_basket_25, vX0_basket_28, vX0_basket_29, vX0_basket_30, vX0_basket_31, vX0_basket_34, vX0_basket_35, vX0_basket_36, vX0_basket_37, vX0_basket_40, vX0_basket_41, vX0_basket_42, vX0_basket_45, vX0_basket_46, vX0_basket_49, vX0_basket_50, vX0_basket_51, vX0_basket_52, vX0_basket_53, vX0_basket_56, vX0_basket_57, vX0_basket_58, vX0_basket_61, vX0_basket_62, vX0_basket_63, vX0_basket_66, vX0_basket_67, vX0_basket_68, vX0_basket_69, vX0_basket_70, vX0_basket_71, vX0_basket_72, vX0_basket_75, vX0_basket_76, Nat.reduceAdd, Nat.reduceSub, Nat.reduceBEq, Nat.reduceEqDiff, Nat.reduceLeDiff, Int.reduceAdd, Int.reduceSub, Int.reduceNeg, Int.reduceToNat, Int.reduceLE, Int.reduceLT, Int.zero_add, Nat.zero_add, List.toList_toArray, Option.map_some, Bool.or_false, Bool.or_true, Bool.false_or, Bool.true_or, Bool.or_self, cond_false, cond_true, List.length_cons, List.length_nil, true_and, and_true, forall_eq, forall_eq_apply_imp_iff, and_imp, ite_true, ite_false, reduceIte, true_or, or_true, false_or, or_false, false_and, and_false, eq_self, List.drop_succ_cons, List.drop_zero, List.zip_cons_cons, List.zip_nil_right, List.all_cons, List.all_nil, false_implies, true_implies, Bool.true_eq_false, Bool.false_eq_true, not_false_eq_true, not_true_eq_false, mx_u, mx_u2, mx_b0, mx_b1, Bool.not_eq_false, Bool.not_eq_true, Nat.le_refl, ne_eq, mG, mF, mGv, Int32.add_sub_cancel, spX0_basket, spX0_isPerson, spX0_isSetOfThings, spX0_clearShown, mArg, hp]
    simp [cBasketF, hp]
theorem bst_cong {f g : Int32 → Int32} {s : Int32} : ∀ {n : Nat}, (∀ j, j < n → hB s (nI j) = true → f (nI j) = g (nI j)) → bstF f s n = bstF g s n
  | 0, _ => rfl
  | n + 1, h => by
    have ih := bst_cong (f := f) (g := g) (s := s) (n := n) (fun j hj hs => h j (by omega) hs)
    unfold bstF
    rw [ih]
    by_cases hs : hB s (nI n) = true
    · rw [← h n (by omega) hs]
      rcases bst_ix g s n with q | ⟨j, hj, q, hjs⟩
      · simp [q]
      · rw [q, ← h j (by omega) hjs]
    · simp [hs]
theorem cWrK_pt {σ : mS} {a s : Int32} (hn : cTn σ ≤ 12) {l : Int32} (hl : ∀ j, j < cTn σ → hB l (nI j) = true → hB s (nI j) = true) : bstF (cPt (cWrK σ a s)) l (cTn σ) = bstF (cKin σ a) l (cTn σ) := by
  refine bst_cong (fun j hj hs => ?_)
  unfold cPt cWrK
  rw [nI_clamp (by omega)]
  exact wcG_in hj (hl j hj hs)
def cOth (σ : mS) (a : Int32) : Int32 := ((1 : Int32) <<< (σ.1 2 &&& 31) - 1) &&& (((1 : Int32) <<< (a &&& 31)) ^^^ (-1))
def cWhyS (σ : mS) (p x : Int32) : Int32 := cTak σ p &&& (((1 : Int32) <<< (x &&& 31)) ^^^ (-1))
def cWhyB (σ : mS) (p x : Int32) : Int32 := bst0 (bstF (cKin σ x) (cWhyS σ p x) (cTn σ))
def cWhyF (σ : mS) (p x w : Int32) : Int32 × mS := if isInF p 0 7 = true ∧ cTh σ x = true ∧ ¬ cWhyS σ p x = 0 then ((if w = 0 then cWhyB σ p x else if w = 1 then cKin σ x (cWhyB σ p x) else if w = 2 then bothF (σ.2 7) (cBn σ) x (cWhyB σ p x) else -1000001), cWrK σ x (cWhyS σ p x)) else (-1000001, σ)
theorem bst0_ix {f : Int32 → Int32} {s : Int32} {n : Nat} (hn : n ≤ 12) : cIx (bst0 (bstF f s n)) := by
  rcases bst_ix f s n with q | ⟨j, hj, q, -⟩
  · rw [q]; exact ⟨0, by omega, rfl⟩
  · rw [q]
    unfold bst0
    rw [if_neg (nI_m1 (by omega))]
    exact ⟨j, by omega, rfl⟩
def spX0_why : mC := mG 3 false (fun σ _ => cOk σ) (fun σ xs => cWhyF σ (mArg xs 0) (mArg xs 1) (mArg xs 2))
set_option maxHeartbeats 8000000 in
set_option maxRecDepth 100000 in
theorem ctX0_why : mCt hX0 0 15 vwC yX0_why cX0_why 6 (some .int) 4 spX0_why := by
  refine mMeet (k := (kX0 [(77, spX0_isPerson), (63, spX0_isThing), (125, spX0_takenBy), (118, spX0_writeKin), (121, spX0_bestByPoints), (114, spX0_kinOf), (107, spX0_basketsWith)])) (bl := 0) (own := RX0) (C := RX0) (T := TX0) (ty0 := tyX0) (by decide +kernel) rfl (tbX0 _) (mCal_cons (okX0_77 (by decide)) (mCal_cons (okX0_63 (by decide)) (mCal_cons (okX0_125 (by decide)) (mCal_cons (okX0_118 (by decide)) (mCal_cons (okX0_121 (by decide)) (mCal_cons (okX0_114 (by decide)) (mCal_cons (okX0_107 (by decide)) mCal_nil))))))) (Or.inl ⟨rfl, rfl, rfl⟩) (by decide) ?_
  intro σ xs hlen hpre X hX
  obtain ⟨a0, a1, a2, rfl⟩ := mx_l3 xs hlen
  change X (0, [some (.ref 0), some (.int a0), some (.int a1), some (.int a2), none, none], [], σ)
  have hok : cOk σ := hpre
  have hn := hok.1.2
  by_cases hp : isInF a0 0 7 = true
  · by_cases hx : isInF a1 0 (σ.1 2 - 1) = true
    · by_cases ho : cWhyS σ a0 a1 = 0
      · have e3 : cWhyF σ a0 a1 a2 = (-1000001, σ) := by unfold cWhyF; rw [if_neg (fun q => q.2.2 ho)]
        have ho2 : cTak σ a0 &&& ((1 : Int32) <<< (a1 &&& 31) ^^^ (-1)) = 0 := ho
        refine mWalk hX [] 60 ?_
        simp only [mRun, mCut, mAt, mSet, mArgs, mFind, mLdI, mLdA, mStI, mInc, mBin, mDiv, mJ1, mJ2, mN1, mN2, mGet, mPut, mLdE, mStE, mLdR, mKon, mDup, mDup2, mAft, mCaV, mCaS, mRetI, mRetV, mTab, mTsw, mLk, mLsw, mJ, jt_55_44, jt_55_25, jt_55_28, jt_55_36, jp_55_44, jp_55_25, jp_55_28, jp_55_36, fX0_18, fX0_21, fX0_24, fX0_27, fX0_30, fX0_33, fX0_36, fX0_39, fX0_44, fX0_47, fX0_50, fX0_53, fX0_57, fX0_60, fX0_83, oX0_117, cX0_c, nX0_0, vX0_0, vX0_1, nX0_2, vX0_2, nX0_3, vX0_3, vX0_4, vX0_5, vX0_6, nX0_7, vX0_7, vX0_8, vX0_9, vX0_10, vX0_11, vX0_12, vX0_13, vX0_14, lX0_1, aX0_1, lX0_2, aX0_2, lX0_3, aX0_3, lX0_4, aX0_4, lX0_5, aX0_5, lX0_6, aX0_6, lX0_7, aX0_7, lX0_8, aX0_8, lX0_9, rX0_9, lX0_10, rX0_10, lX0_11, aX0_11, gX0_n, vX0_why_0, vX0_why_1, vX0_why_4, vX0_why_7, vX0_why_8, vX0_why_9, vX0_why_12, vX0_why_15, vX0_why_17, vX0_why_18, vX0_why_19, vX0_why_20, vX0_why_23, vX0_why_24, vX0_why_25, vX0_why_26, vX0_why_27, vX0_why_28, vX0_why_29, vX0_why_31, vX0_why_33, vX0_why_36, vX0_why_38, vX0_why_39, vX0_why_40, vX0_why_41, vX0_why_43, vX0_why_46, vX0_why_47, vX0_why_49, vX0_why_52, vX0_why_54, vX0_why_55, vX0_why_80, vX0_why_82, vX0_why_83, vX0_why_84, vX0_why_85, vX0_why_87, vX0_why_90, vX0_why_91, vX0_why_92, vX0_why_93, vX0_why_95, vX0_why_98, vX0_why_99, vX0_why_101, Nat.reduceAdd, Nat.reduceSub, Nat.reduceBEq, Nat.reduceEqDiff, Nat.reduceLeDiff, Int.reduceAdd, Int.reduceSub, Int.reduceNeg, Int.reduceToNat, Int.reduceLE, Int.reduceLT, Int.zero_add, Nat.zero_add, List.toList_toArray, Option.map_some, Bool.or_false, Bool.or_true, Bool.false_or, Bool.true_or, Bool.or_self, cond_false, cond_true, List.length_cons, List.length_nil, true_and, and_true, forall_eq, forall_eq_apply_imp_iff, and_imp, ite_true, ite_false, reduceIte, true_or, or_true, false_or, or_false, false_and, and_false, eq_self, List.drop_succ_cons, List.drop_zero, List.zip_cons_cons, List.zip_nil_right, List.all_cons, List.all_nil, false_implies, true_implies, Bool.true_eq_false, Bool.false_eq_true, not_false_eq_true, not_true_eq_false, mx_u, mx_u2, mx_b0, mx_b1, Bool.not_eq_false, Bool.not_eq_true, Nat.le_refl, ne_eq, mG, mF, mGv, Int32.add_sub_cancel, spX0_why, spX0_isPerson, spX0_isThing, spX0_takenBy, spX0_writeKin, spX0_bestByPoints, spX0_kinOf, spX0_basketsWith, mArg, hp, hx, hok, ho2, e3]
      · have ho2 : ¬ cTak σ a0 &&& ((1 : Int32) <<< (a1 &&& 31) ^^^ (-1)) = 0 := ho
        have hix := cTh_ix hok hx
        have hE : cEq σ (cWrK σ a1 (cWhyS σ a0 a1)) := wcG_eq _ _ _ _
        have hok2 := cEq_ok hE hok
        have hk2 := cEq_kin hE
        have ht2 := cEq_tn hE
        have hb2 := cEq_bn hE
        have h72 := hE.2 7 (by decide)
        have hb := cWrK_pt (σ := σ) (a := a1) (s := cWhyS σ a0 a1) hn (l := cWhyS σ a0 a1) (fun _ _ q => q)
        have hbx : cIx (cWhyB σ a0 a1) := bst0_ix hn
        have hbe : bst0 (bstF (cKin σ a1) (cWhyS σ a0 a1) (cTn σ)) = cWhyB σ a0 a1 := rfl
        have e0 : cTak σ a0 &&& ((1 : Int32) <<< (a1 &&& 31) ^^^ (-1)) = cWhyS σ a0 a1 := rfl
        refine mWalk hX [54] 60 ?_
        simp only [mRun, mCut, mAt, mSet, mArgs, mFind, mLdI, mLdA, mStI, mInc, mBin, mDiv, mJ1, mJ2, mN1, mN2, mGet, mPut, mLdE, mStE, mLdR, mKon, mDup, mDup2, mAft, mCaV, mCaS, mRetI, mRetV, mTab, mTsw, mLk, mLsw, mJ, jt_55_44, jt_55_25, jt_55_28, jt_55_36, jp_55_44, jp_55_25, jp_55_28, jp_55_36, fX0_18, fX0_21, fX0_24, fX0_27, fX0_30, fX0_33, fX0_36, fX0_39, fX0_44, fX0_47, fX0_50, fX0_53, fX0_57, fX0_60, fX0_83, oX0_117, cX0_c, nX0_0, vX0_0, vX0_1, nX0_2, vX0_2, nX0_3, vX0_3, vX0_4, vX0_5, vX0_6, nX0_7, vX0_7, vX0_8, vX0_9, vX0_10, vX0_11, vX0_12, vX0_13, vX0_14, lX0_1, aX0_1, lX0_2, aX0_2, lX0_3, aX0_3, lX0_4, aX0_4, lX0_5, aX0_5, lX0_6, aX0_6, lX0_7, aX0_7, lX0_8, aX0_8, lX0_9, rX0_9, lX0_10, rX0_10, lX0_11, aX0_11, gX0_n, vX0_why_0, vX0_why_1, vX0_why_4, vX0_why_7, vX0_why_8, vX0_why_9, vX0_why_12, vX0_why_15, vX0_why_17, vX0_why_18, vX0_why_19, vX0_why_20, vX0_why_23, vX0_why_24, vX0_why_25, vX0_why_26, vX0_why_27, vX0_why_28, vX0_why_29, vX0_why_31, vX0_why_33, vX0_why_36, vX0_why_38, vX0_why_39, vX0_why_40, vX0_why_41, vX0_why_43, vX0_why_46, vX0_why_47, vX0_why_49, vX0_why_52, vX0_why_54, vX0_why_55, vX0_why_80, vX0_why_82, vX0_why_83, vX0_why_84, vX0_why_85, vX0_why_87, vX0_why_90, vX0_why_91, vX0_why_92, vX0_why_93, vX0_why_95, vX0_why_98, vX0_why_99, vX0_why_101, Nat.reduceAdd, Nat.reduceSub, Nat.reduceBEq, Nat.reduceEqDiff, Nat.reduceLeDiff, Int.reduceAdd, Int.reduceSub, Int.reduceNeg, Int.reduceToNat, Int.reduceLE, Int.reduceLT, Int.zero_add, Nat.zero_add, List.toList_toArray, Option.map_some, Bool.or_false, Bool.or_true, Bool.false_or, Bool.true_or, Bool.or_self, cond_false, cond_true, List.length_cons, List.length_nil, true_and, and_true, forall_eq, forall_eq_apply_imp_iff, and_imp, ite_true, ite_false, reduceIte, true_or, or_true, false_or, or_false, false_and, and_false, eq_self, List.drop_succ_cons, List.drop_zero, List.zip_cons_cons, List.zip_nil_right, List.all_cons, List.all_nil, false_implies, true_implies, Bool.true_eq_false, Bool.false_eq_true, not_false_eq_true, not_true_eq_false, mx_u, mx_u2, mx_b0, mx_b1, Bool.not_eq_false, Bool.not_eq_true, Nat.le_refl, ne_eq, mG, mF, mGv, Int32.add_sub_cancel, spX0_why, spX0_isPerson, spX0_isThing, spX0_takenBy, spX0_writeKin, spX0_bestByPoints, spX0_kinOf, spX0_basketsWith, mArg, hp, hx, hok, ho2, hix]
        rw [e0]
        simp only [mRun, mCut, mAt, mSet, mArgs, mFind, mLdI, mLdA, mStI, mInc, mBin, mDiv, mJ1, mJ2, mN1, mN2, mGet, mPut, mLdE, mStE, mLdR, mKon, mDup, mDup2, mAft, mCaV, mCaS, mRetI, mRetV, mTab, mTsw, mLk, mLsw, mJ, jt_55_44, jt_55_25, jt_55_28, jt_55_36, jp_55_44, jp_55_25, jp_55_28, jp_55_36, fX0_18, fX0_21, fX0_24, fX0_27, fX0_30, fX0_33, fX0_36, fX0_39, fX0_44, fX0_47, fX0_50, fX0_53, fX0_57, fX0_60, fX0_83, oX0_117, cX0_c, nX0_0, vX0_0, vX0_1, nX0_2, vX0_2, nX0_3, vX0_3, vX0_4, vX0_5, vX0_6, nX0_7, vX0_7, vX0_8, vX0_9, vX0_10, vX0_11, vX0_12, vX0_13, vX0_14, lX0_1, aX0_1, lX0_2, aX0_2, lX0_3, aX0_3, lX0_4, aX0_4, lX0_5, aX0_5, lX0_6, aX0_6, lX0_7, aX0_7, lX0_8, aX0_8, lX0_9, rX0_9, lX0_10, rX0_10, lX0_11, aX0_11, gX0_n, vX0_why_0, vX0_why_1, vX0_why_4, vX0_why_7, vX0_why_8, vX0_why_9, vX0_why_12, vX0_why_15, vX0_why_17, vX0_why_18, vX0_why_19, vX0_why_20, vX0_why_23, vX0_why_24, vX0_why_25, vX0_why_26, vX0_why_27, vX0_why_28, vX0_why_29, vX0_why_31, vX0_why_33, vX0_why_36, vX0_why_38, vX0_why_39, vX0_why_40, vX0_why_41, vX0_why_43, vX0_why_46, vX0_why_47, vX0_why_49, vX0_why_52, vX0_why_54, vX0_why_55, vX0_why_80, vX0_why_82, vX0_why_83, vX0_why_84, vX0_why_85, vX0_why_87, vX0_why_90, vX0_why_91, vX0_why_92, vX0_why_93, vX0_why_95, vX0_why_98, vX0_why_99, vX0_why_101, Nat.reduceAdd, Nat.reduceSub, Nat.reduceBEq, Nat.reduceEqDiff, Nat.reduceLeDiff, Int.reduceAdd, Int.reduceSub, Int.reduceNeg, Int.reduceToNat, Int.reduceLE, Int.reduceLT, Int.zero_add, Nat.zero_add, List.toList_toArray, Option.map_some, Bool.or_false, Bool.or_true, Bool.false_or, Bool.true_or, Bool.or_self, cond_false, cond_true, List.length_cons, List.length_nil, true_and, and_true, forall_eq, forall_eq_apply_imp_iff, and_imp, ite_true, ite_false, reduceIte, true_or, or_true, false_or, or_false, false_and, and_false, eq_self, List.drop_succ_cons, List.drop_zero, List.zip_cons_cons, List.zip_nil_right, List.all_cons, List.all_nil, false_implies, true_implies, Bool.true_eq_false, Bool.false_eq_true, not_false_eq_true, not_true_eq_false, mx_u, mx_u2, mx_b0, mx_b1, Bool.not_eq_false, Bool.not_eq_true, Nat.le_refl, ne_eq, mG, mF, mGv, Int32.add_sub_cancel, spX0_why, spX0_isPerson, spX0_isThing, spX0_takenBy, spX0_writeKin, spX0_bestByPoints, spX0_kinOf, spX0_basketsWith, mArg, hok2, ht2, hb, hbe]
        refine mWalk hX [] 60 ?_
        simp only [mRun, mCut, mAt, mSet, mArgs, mFind, mLdI, mLdA, mStI, mInc, mBin, mDiv, mJ1, mJ2, mN1, mN2, mGet, mPut, mLdE, mStE, mLdR, mKon, mDup, mDup2, mAft, mCaV, mCaS, mRetI, mRetV, mTab, mTsw, mLk, mLsw, mJ, jt_55_44, jt_55_25, jt_55_28, jt_55_36, jp_55_44, jp_55_25, jp_55_28, jp_55_36, fX0_18, fX0_21, fX0_24, fX0_27, fX0_30, fX0_33, fX0_36, fX0_39, fX0_44, fX0_47, fX0_50, fX0_53, fX0_57, fX0_60, fX0_83, oX0_117, cX0_c, nX0_0, vX0_0, vX0_1, nX0_2, vX0_2, nX0_3, vX0_3, vX0_4, vX0_5, vX0_6, nX0_7, vX0_7, vX0_8, vX0_9, vX0_10, vX0_11, vX0_12, vX0_13, vX0_14, lX0_1, aX0_1, lX0_2, aX0_2, lX0_3, aX0_3, lX0_4, aX0_4, lX0_5, aX0_5, lX0_6, aX0_6, lX0_7, aX0_7, lX0_8, aX0_8, lX0_9, rX0_9, lX0_10, rX0_10, lX0_11, aX0_11, gX0_n, vX0_why_0, vX0_why_1, vX0_why_4, vX0_why_7, vX0_why_8, vX0_why_9, vX0_why_12, vX0_why_15, vX0_why_17, vX0_why_18, vX0_why_19, vX0_why_20, vX0_why_23, vX0_why_24, vX0_why_25, vX0_why_26, vX0_why_27, vX0_why_28, vX0_why_29, vX0_why_31, vX0_why_33, vX0_why_36, vX0_why_38, vX0_why_39, vX0_why_40, vX0_why_41, vX0_why_43, vX0_why_46, vX0_why_47, vX0_why_49, vX0_why_52, vX0_why_54, vX0_why_55, vX0_why_80, vX0_why_82, vX0_why_83, vX0_why_84, vX0_why_85, vX0_why_87, vX0_why_90, vX0_why_91, vX0_why_92, vX0_why_93, vX0_why_95, vX0_why_98, vX0_why_99, vX0_why_101, Nat.reduceAdd, Nat.reduceSub, Nat.reduceBEq, Nat.reduceEqDiff, Nat.reduceLeDiff, Int.reduceAdd, Int.reduceSub, Int.reduceNeg, Int.reduceToNat, Int.reduceLE, Int.reduceLT, Int.zero_add, Nat.zero_add, List.toList_toArray, Option.map_some, Bool.or_false, Bool.or_true, Bool.false_or, Bool.true_or, Bool.or_self, cond_false, cond_true, List.length_cons, List.length_nil, true_and, and_true, forall_eq, forall_eq_apply_imp_iff, and_imp, ite_true, ite_false, reduceIte, true_or, or_true, false_or, or_false, false_and, and_false, eq_self, List.drop_succ_cons, List.drop_zero, List.zip_cons_cons, List.zip_nil_right, List.all_cons, List.all_nil, false_implies, true_implies, Bool.true_eq_false, Bool.false_eq_true, not_false_eq_true, not_true_eq_false, mx_u, mx_u2, mx_b0, mx_b1, Bool.not_eq_false, Bool.not_eq_true, Nat.le_refl, ne_eq, mG, mF, mGv, Int32.add_sub_cancel, spX0_why, spX0_isPerson, spX0_isThing, spX0_takenBy, spX0_writeKin, spX0_bestByPoints, spX0_kinOf, spX0_basketsWith, mArg, hok2, hix, hbx, hk2, hb2, h72]
        have g1 : cTh σ a1 = true := hx
        refine ⟨fun h1 => ?_, fun h1 => ?_, fun h1 => ?_, fun h1 => ?_⟩
        · obtain ⟨q0, q1, q2⟩ := ti_out h1
          simp [cWhyF, hp, g1, ho, q0, q1, q2]
        · rw [ti_0] at h1; simp [cWhyF, hp, g1, ho, h1]
        · rw [ti_1] at h1; simp [cWhyF, hp, g1, ho, h1]
        · rw [ti_2] at h1; simp [cWhyF, hp, g1, ho, h1]
    · have e3 : cWhyF σ a0 a1 a2 = (-1000001, σ) := by unfold cWhyF; rw [if_neg (fun q => hx q.2.1)]
      refine mWalk hX [] 60 ?_
      simp only [mRun, mCut, mAt, mSet, mArgs, mFind, mLdI, mLdA, mStI, mInc, mBin, mDiv, mJ1, mJ2, mN1, mN2, mGet, mPut, mLdE, mStE, mLdR, mKon, mDup, mDup2, mAft, mCaV, mCaS, mRetI, mRetV, mTab, mTsw, mLk, mLsw, mJ, jt_55_44, jt_55_25, jt_55_28, jt_55_36, jp_55_44, jp_55_25, jp_55_28, jp_55_36, fX0_18, fX0_21, fX0_24, fX0_27, fX0_30, fX0_33, fX0_36, fX0_39, fX0_44, fX0_47, fX0_50, fX0_53, fX0_57, fX0_60, fX0_83, oX0_117, cX0_c, nX0_0, vX0_0, vX0_1, nX0_2, vX0_2, nX0_3, vX0_3, vX0_4, vX0_5, vX0_6, nX0_7, vX0_7, vX0_8, vX0_9, vX0_10, vX0_11, vX0_12, vX0_13, vX0_14, lX0_1, aX0_1, lX0_2, aX0_2, lX0_3, aX0_3, lX0_4, aX0_4, lX0_5, aX0_5, lX0_6, aX0_6, lX0_7, aX0_7, lX0_8, aX0_8, lX0_9, rX0_9, lX0_10, rX0_10, lX0_11, aX0_11, gX0_n, vX0_why_0, vX0_why_1, vX0_why_4, vX0_why_7, vX0_why_8, vX0_why_9, vX0_why_12, vX0_why_15, vX0_why_17, vX0_why_18, vX0_why_19, vX0_why_20, vX0_why_23, vX0_why_24, vX0_why_25, vX0_why_26, vX0_why_27, vX0_why_28, vX0_why_29, vX0_why_31, vX0_why_33, vX0_why_36, vX0_why_38, vX0_why_39, vX0_why_40, vX0_why_41, vX0_why_43, vX0_why_46, vX0_why_47, vX0_why_49, vX0_why_52, vX0_why_54, vX0_why_55, vX0_why_80, vX0_why_82, vX0_why_83, vX0_why_84, vX0_why_85, vX0_why_87, vX0_why_90, vX0_why_91, vX0_why_92, vX0_why_93, vX0_why_95, vX0_why_98, vX0_why_99, vX0_why_101, Nat.reduceAdd, Nat.reduceSub, Nat.reduceBEq, Nat.reduceEqDiff, Nat.reduceLeDiff, Int.reduceAdd, Int.reduceSub, Int.reduceNeg, Int.reduceToNat, Int.reduceLE, Int.reduceLT, Int.zero_add, Nat.zero_add, List.toList_toArray, Option.map_some, Bool.or_false, Bool.or_true, Bool.false_or, Bool.true_or, Bool.or_self, cond_false, cond_true, List.length_cons, List.length_nil, true_and, and_true, forall_eq, forall_eq_apply_imp_iff, and_imp, ite_true, ite_false, reduceIte, true_or, or_true, false_or, or_false, false_and, and_false, eq_self, List.drop_succ_cons, List.drop_zero, List.zip_cons_cons, List.zip_nil_right, List.all_cons, List.all_nil, false_implies, true_implies, Bool.true_eq_false, Bool.false_eq_true, not_false_eq_true, not_true_eq_false, mx_u, mx_u2, mx_b0, mx_b1, Bool.not_eq_false, Bool.not_eq_true, Nat.le_refl, ne_eq, mG, mF, mGv, Int32.add_sub_cancel, spX0_why, spX0_isPerson, spX0_isThing, spX0_takenBy, spX0_writeKin, spX0_bestByPoints, spX0_kinOf, spX0_basketsWith, mArg, hp, hx, hok, e3]
  · have e3 : cWhyF σ a0 a1 a2 = (-1000001, σ) := by unfold cWhyF; rw [if_neg (fun q => hp q.1)]
    refine mWalk hX [] 60 ?_
    simp only [mRun, mCut, mAt, mSet, mArgs, mFind, mLdI, mLdA, mStI, mInc, mBin, mDiv, mJ1, mJ2, mN1, mN2, mGet, mPut, mLdE, mStE, mLdR, mKon, mDup, mDup2, mAft, mCaV, mCaS, mRetI, mRetV, mTab, mTsw, mLk, mLsw, mJ, jt_55_44, jt_55_25, jt_55_28, jt_55_36, jp_55_44, jp_55_25, jp_55_28, jp_55_36, fX0_18, fX0_21, fX0_24, fX0_27, fX0_30, fX0_33, fX0_36, fX0_39, fX0_44, fX0_47, fX0_50, fX0_53, fX0_57, fX0_60, fX0_83, oX0_117, cX0_c, nX0_0, vX0_0, vX0_1, nX0_2, vX0_2, nX0_3, vX0_3, vX0_4, vX0_5, vX0_6, nX0_7, vX0_7, vX0_8, vX0_9, vX0_10, vX0_11, vX0_12, vX0_13, vX0_14, lX0_1, aX0_1, lX0_2, aX0_2, lX0_3, aX0_3, lX0_4, aX0_4, lX0_5, aX0_5, lX0_6, aX0_6, lX0_7, aX0_7, lX0_8, aX0_8, lX0_9, rX0_9, lX0_10, rX0_10, lX0_11, aX0_11, gX0_n, vX0_why_0, vX0_why_1, vX0_why_4, vX0_why_7, vX0_why_8, vX0_why_9, vX0_why_12, vX0_why_15, vX0_why_17, vX0_why_18, vX0_why_19, vX0_why_20, vX0_why_23, vX0_why_24, vX0_why_25, vX0_why_26, vX0_why_27, vX0_why_28, vX0_why_29, vX0_why_31, vX0_why_33, vX0_why_36, vX0_why_38, vX0_why_39, vX0_why_40, vX0_why_41, vX0_why_43, vX0_why_46, vX0_why_47, vX0_why_49, vX0_why_52, vX0_why_54, vX0_why_55, vX0_why_80, vX0_why_82, vX0_why_83, vX0_why_84, vX0_why_85, vX0_why_87, vX0_why_90, vX0_why_91, vX0_why_92, vX0_why_93, vX0_why_95, vX0_why_98, vX0_why_99, vX0_why_101, Nat.reduceAdd, Nat.reduceSub, Nat.reduceBEq, Nat.reduceEqDiff, Nat.reduceLeDiff, Int.reduceAdd, Int.reduceSub, Int.reduceNeg, Int.reduceToNat, Int.reduceLE, Int.reduceLT, Int.zero_add, Nat.zero_add, List.toList_toArray, Option.map_some, Bool.or_false, Bool.or_true, Bool.false_or, Bool.true_or, Bool.or_self, cond_false, cond_true, List.length_cons, List.length_nil, true_and, and_true, forall_eq, forall_eq_apply_imp_iff, and_imp, ite_true, ite_false, reduceIte, true_or, or_true, false_or, or_false, false_and, and_false, eq_self, List.drop_succ_cons, List.drop_zero, List.zip_cons_cons, List.zip_nil_right, List.all_cons, List.all_nil, false_implies, true_implies, Bool.true_eq_false, Bool.false_eq_true, not_false_eq_true, not_true_eq_false, mx_u, mx_u2, mx_b0, mx_b1, Bool.not_eq_false, Bool.not_eq_true, Nat.le_refl, ne_eq, mG, mF, mGv, Int32.add_sub_cancel, spX0_why, spX0_isPerson, spX0_isThing, spX0_takenBy, spX0_writeKin, spX0_bestByPoints, spX0_kinOf, spX0_basketsWith, mArg, hp, e3]
