theorem bt_orN (f : Nat → Int32) (k : Nat) : ∀ n, bt (orN f n) k = anyN (fun i => bt (f i) k) n
  | 0 => b_0 k
  | n + 1 => by
    unfold orN anyN
    rw [b_or, bt_orN f k n]
theorem anyN_cong {p q : Nat → Bool} : ∀ {n : Nat}, (∀ i, i < n → p i = q i) → anyN p n = anyN q n
  | 0, _ => rfl
  | n + 1, h => by
    unfold anyN
    rw [anyN_cong (fun i hi => h i (by omega)), h n (by omega)]
theorem cN_cong {p q : Nat → Bool} : ∀ {n : Nat}, (∀ i, i < n → p i = q i) → cN p n = cN q n
  | 0, _ => rfl
  | n + 1, h => by
    unfold cN
    rw [cN_cong (fun i hi => h i (by omega)), h n (by omega)]
theorem smallN {x : Int32} (h : ∀ k, 12 ≤ k → k < 32 → bt x k = false) : ∃ m, m < 4096 ∧ x = nI m := by
  refine ⟨x.toBitVec.toNat, ?_, ?_⟩
  · refine Nat.lt_pow_two_of_testBit (n := 12) _ (fun i hi => ?_)
    by_cases h2 : i < 32
    · exact h i hi h2
    · exact b_big (x := x) (by omega)
  · apply Int32.toBitVec_inj.mp
    show x.toBitVec = BitVec.ofNat 32 x.toBitVec.toNat
    simp
set_option maxRecDepth 100000 in
theorem bc_tab : ∀ a, a < 64 → ∀ b, b < 64 → bcF (nI (64 * a + b)) = nI (cN (fun k => bt (nI (64 * a + b)) k) 12) := by decide +kernel
theorem bc_small {m : Nat} (h : m < 4096) : bcF (nI m) = nI (cN (fun k => bt (nI m) k) 12) := by
  have := bc_tab (m / 64) (by omega) (m % 64) (by omega)
  rwa [show 64 * (m / 64) + m % 64 = m by omega] at this
theorem bc_bits {x : Int32} (h : ∀ k, 12 ≤ k → k < 32 → bt x k = false) : bcF x = nI (cN (fun k => bt x k) 12) := by
  obtain ⟨m, hm, rfl⟩ := smallN h
  exact bc_small hm
theorem cN_hi {p : Nat → Bool} (m : Nat) : ∀ n, (∀ k, m ≤ k → k < m + n → p k = false) → cN p (m + n) = cN p m
  | 0, _ => rfl
  | n + 1, h => by
    show cN p (m + n) + (bif p (m + n) then 1 else 0) = cN p m
    rw [cN_hi m n (fun k h1 h2 => h k h1 (by omega)), h (m + n) (by omega) (by omega)]
    rfl
theorem peop_mask {st ow : Nat → Int32} {n : Nat} {a b : Int32} (ho : ∀ i, i < n → ∃ p, p < 8 ∧ ow i = nI p) : bcF (orN (fun i => if (hB (st i) a && hB (st i) b) = true then (1 : Int32) <<< (ow i &&& 31) else 0) n) = peopF st ow n a b := by
  have key : ∀ k, k < 32 → bt (orN (fun i => if (hB (st i) a && hB (st i) b) = true then (1 : Int32) <<< (ow i &&& 31) else 0) n) k = anyN (fun i => decide (ow i = nI k) && (hB (st i) a && hB (st i) b)) n := by
    intro k hk
    rw [bt_orN]
    refine anyN_cong (fun i hi => ?_)
    obtain ⟨p, hp, e⟩ := ho i hi
    rw [e]
    by_cases q : (hB (st i) a && hB (st i) b) = true
    · rw [if_pos q, bt_shl1 (by omega) hk, q, Bool.and_true]
      rw [Bool.eq_iff_iff, decide_eq_true_eq, decide_eq_true_eq, nI_eq (by omega) (by omega)]
    · have q2 : (hB (st i) a && hB (st i) b) = false := Bool.eq_false_iff.mpr q
      rw [if_neg q, b_0, q2, Bool.and_false]
  have none : ∀ k, 8 ≤ k → k < 32 → anyN (fun i => decide (ow i = nI k) && (hB (st i) a && hB (st i) b)) n = false := by
    intro k h8 h32
    have : anyN (fun i => decide (ow i = nI k) && (hB (st i) a && hB (st i) b)) n = anyN (fun _ => false) n := anyN_cong (fun i hi => by
      obtain ⟨p, hp, e⟩ := ho i hi
      rw [e, decide_eq_false (fun q => by have := (nI_eq (by omega) (by omega)).mp q; omega)]
      rfl)
    rw [this]
    clear this key ho
    induction n with
    | zero => rfl
    | succ n ih => unfold anyN; rw [ih]; rfl
  rw [bc_bits (fun k h1 h2 => by rw [key k h2]; exact none k (by omega) h2)]
  unfold peopF
  rw [show (12 : Nat) = 8 + 4 from rfl, cN_hi 8 4 (fun k h1 h2 => by rw [key k (by omega)]; exact none k h1 (by omega))]
  rw [cN_cong (fun k hk => key k (by omega))]
def spX0_peopleWith : mC := mF 2 false (fun σ xs => cOk σ ∧ cIx (mArg xs 0) ∧ cIx (mArg xs 1)) (fun σ xs => peopF (σ.2 7) (σ.2 5) (cBn σ) (mArg xs 0) (mArg xs 1))
set_option maxHeartbeats 8000000 in
set_option maxRecDepth 100000 in
theorem ctX0_peopleWith : mCt hX0 0 15 vwC yX0_peopleWith cX0_peopleWith 6 (some .int) 1 spX0_peopleWith := by
  refine mMeet (k := (kX0 [(149, spJ6_bitCount_0f7a4)])) (bl := 0) (own := RX0) (C := RX0) (T := TX0) (ty0 := tyX0) (by decide +kernel) rfl (tbX0 _) (mCal_cons (okX0_149 (by decide)) mCal_nil) (Or.inl ⟨rfl, rfl, rfl⟩) (by decide) ?_
  intro σ xs hlen hpre X hX
  obtain ⟨a0, a1, rfl⟩ := mx_l2 xs hlen
  change X (0, [some (.ref 0), some (.int a0), some (.int a1), none, none, none], [], σ)
  obtain ⟨hok, ⟨i1, hi1, h1⟩, i2, hi2, h2⟩ : cOk σ ∧ cIx a0 ∧ cIx a1 := hpre
  subst h1
  subst h2
  obtain ⟨hb, hn⟩ := hok.2.1
  obtain ⟨pr, hpr⟩ : ∃ z, z = (1 : Int32) <<< (nI i1 &&& 31) ||| (1 : Int32) <<< (nI i2 &&& 31) := ⟨_, rfl⟩
  have key := mFor (X := X) (cBn σ) (fun i => (14, [some (.ref 0), some (.int (nI i1)), some (.int (nI i2)), some (.int pr), some (.int (orN (fun i => if (hB (σ.2 7 i) (nI i1) && hB (σ.2 7 i) (nI i2)) = true then (1 : Int32) <<< (σ.2 5 i &&& 31) else 0) i)), some (.int (nI i))], [], σ)) ?_ ?_ 0 (Nat.zero_le _)
  · refine mWalk hX [14] 40 ?_
    simp only [mRun, mCut, mAt, mSet, mArgs, mFind, mLdI, mLdA, mStI, mInc, mBin, mDiv, mJ1, mJ2, mN1, mN2, mGet, mPut, mLdE, mStE, mLdR, mKon, mDup, mDup2, mAft, mCaV, mCaS, mRetI, mRetV, fX0_18, fX0_21, fX0_24, fX0_27, fX0_30, fX0_33, fX0_36, fX0_39, fX0_44, fX0_47, fX0_50, fX0_53, fX0_57, fX0_60, fX0_83, oX0_117, cX0_c, nX0_0, vX0_0, vX0_1, nX0_2, vX0_2, nX0_3, vX0_3, vX0_4, vX0_5, vX0_6, nX0_7, vX0_7, vX0_8, vX0_9, vX0_10, vX0_11, vX0_12, vX0_13, vX0_14, lX0_1, aX0_1, lX0_2, aX0_2, lX0_3, aX0_3, lX0_4, aX0_4, lX0_5, aX0_5, lX0_6, aX0_6, lX0_7, aX0_7, lX0_8, aX0_8, lX0_9, rX0_9, lX0_10, rX0_10, lX0_11, aX0_11, gX0_n, vX0_peopleWith_0, vX0_peopleWith_1, vX0_peopleWith_2, vX0_peopleWith_3, vX0_peopleWith_4, vX0_peopleWith_5, vX0_peopleWith_6, vX0_peopleWith_7, vX0_peopleWith_8, vX0_peopleWith_9, vX0_peopleWith_11, vX0_peopleWith_12, vX0_peopleWith_14, vX0_peopleWith_16, vX0_peopleWith_17, vX0_peopleWith_20, vX0_peopleWith_23, vX0_peopleWith_24, vX0_peopleWith_27, vX0_peopleWith_29, vX0_peopleWith_30, vX0_peopleWith_31, vX0_peopleWith_32, vX0_peopleWith_33, vX0_peopleWith_36, vX0_peopleWith_38, vX0_peopleWith_39, vX0_peopleWith_40, vX0_peopleWith_43, vX0_peopleWith_45, vX0_peopleWith_46, vX0_peopleWith_47, vX0_peopleWith_48, vX0_peopleWith_50, vX0_peopleWith_53, vX0_peopleWith_56, vX0_peopleWith_58, vX0_peopleWith_61, Nat.reduceAdd, Nat.reduceSub, Nat.reduceBEq, Nat.reduceEqDiff, Nat.reduceLeDiff, Int.reduceAdd, Int.reduceSub, Int.reduceNeg, Int.reduceToNat, Int.reduceLE, Int.reduceLT, Int.zero_add, Nat.zero_add, List.toList_toArray, Option.map_some, Bool.or_false, Bool.or_true, Bool.false_or, Bool.true_or, Bool.or_self, cond_false, cond_true, List.length_cons, List.length_nil, true_and, and_true, forall_eq, forall_eq_apply_imp_iff, and_imp, ite_true, ite_false, reduceIte, true_or, or_true, false_or, or_false, false_and, and_false, eq_self, List.drop_succ_cons, List.drop_zero, List.zip_cons_cons, List.zip_nil_right, List.all_cons, List.all_nil, false_implies, true_implies, Bool.true_eq_false, Bool.false_eq_true, not_false_eq_true, not_true_eq_false, mx_u, mx_u2, mx_b0, mx_b1, Bool.not_eq_false, Bool.not_eq_true, Nat.le_refl, ne_eq, mG, mF, mGv, Int32.add_sub_cancel, spX0_peopleWith, spJ6_bitCount_0f7a4, mArg]
    rw [hpr] at key
    exact key
  · refine mWalk hX [14] 40 ?_
    simp only [mRun, mCut, mAt, mSet, mArgs, mFind, mLdI, mLdA, mStI, mInc, mBin, mDiv, mJ1, mJ2, mN1, mN2, mGet, mPut, mLdE, mStE, mLdR, mKon, mDup, mDup2, mAft, mCaV, mCaS, mRetI, mRetV, fX0_18, fX0_21, fX0_24, fX0_27, fX0_30, fX0_33, fX0_36, fX0_39, fX0_44, fX0_47, fX0_50, fX0_53, fX0_57, fX0_60, fX0_83, oX0_117, cX0_c, nX0_0, vX0_0, vX0_1, nX0_2, vX0_2, nX0_3, vX0_3, vX0_4, vX0_5, vX0_6, nX0_7, vX0_7, vX0_8, vX0_9, vX0_10, vX0_11, vX0_12, vX0_13, vX0_14, lX0_1, aX0_1, lX0_2, aX0_2, lX0_3, aX0_3, lX0_4, aX0_4, lX0_5, aX0_5, lX0_6, aX0_6, lX0_7, aX0_7, lX0_8, aX0_8, lX0_9, rX0_9, lX0_10, rX0_10, lX0_11, aX0_11, gX0_n, vX0_peopleWith_0, vX0_peopleWith_1, vX0_peopleWith_2, vX0_peopleWith_3, vX0_peopleWith_4, vX0_peopleWith_5, vX0_peopleWith_6, vX0_peopleWith_7, vX0_peopleWith_8, vX0_peopleWith_9, vX0_peopleWith_11, vX0_peopleWith_12, vX0_peopleWith_14, vX0_peopleWith_16, vX0_peopleWith_17, vX0_peopleWith_20, vX0_peopleWith_23, vX0_peopleWith_24, vX0_peopleWith_27, vX0_peopleWith_29, vX0_peopleWith_30, vX0_peopleWith_31, vX0_peopleWith_32, vX0_peopleWith_33, vX0_peopleWith_36, vX0_peopleWith_38, vX0_peopleWith_39, vX0_peopleWith_40, vX0_peopleWith_43, vX0_peopleWith_45, vX0_peopleWith_46, vX0_peopleWith_47, vX0_peopleWith_48, vX0_peopleWith_50, vX0_peopleWith_53, vX0_peopleWith_56, vX0_peopleWith_58, vX0_peopleWith_61, Nat.reduceAdd, Nat.reduceSub, Nat.reduceBEq, Nat.reduceEqDiff, Nat.reduceLeDiff, Int.reduceAdd, Int.reduceSub, Int.reduceNeg, Int.reduceToNat, Int.reduceLE, Int.reduceLT, Int.zero_add, Nat.zero_add, List.toList_toArray, Option.map_some, Bool.or_false, Bool.or_true, Bool.false_or, Bool.true_or, Bool.or_self, cond_false, cond_true, List.length_cons, List.length_nil, true_and, and_true, forall_eq, forall_eq_apply_imp_iff, and_imp, ite_true, ite_false, reduceIte, true_or, or_true, false_or, or_false, false_and, and_false, eq_self, List.drop_succ_cons, List.drop_zero, List.zip_cons_cons, List.zip_nil_right, List.all_cons, List.all_nil, false_implies, true_implies, Bool.true_eq_false, Bool.false_eq_true, not_false_eq_true, not_true_eq_false, mx_u, mx_u2, mx_b0, mx_b1, Bool.not_eq_false, Bool.not_eq_true, Nat.le_refl, ne_eq, mG, mF, mGv, Int32.add_sub_cancel, spX0_peopleWith, spJ6_bitCount_0f7a4, mArg, hb, Int32.le_refl]
    exact peop_mask hok.2.2.1
  · intro i hi ih
    have c1 : ¬ nI (cBn σ) ≤ nI i := nI_ge hi (by omega)
    obtain ⟨v1, e1⟩ := nI_i (j := i) (n := 60) (by omega) (by omega)
    have hpi := pair_iff (c := σ.2 7 i) hi1 hi2
    rw [← hpr] at hpi
    refine mWalk hX [14] 40 ?_
    simp only [mRun, mCut, mAt, mSet, mArgs, mFind, mLdI, mLdA, mStI, mInc, mBin, mDiv, mJ1, mJ2, mN1, mN2, mGet, mPut, mLdE, mStE, mLdR, mKon, mDup, mDup2, mAft, mCaV, mCaS, mRetI, mRetV, fX0_18, fX0_21, fX0_24, fX0_27, fX0_30, fX0_33, fX0_36, fX0_39, fX0_44, fX0_47, fX0_50, fX0_53, fX0_57, fX0_60, fX0_83, oX0_117, cX0_c, nX0_0, vX0_0, vX0_1, nX0_2, vX0_2, nX0_3, vX0_3, vX0_4, vX0_5, vX0_6, nX0_7, vX0_7, vX0_8, vX0_9, vX0_10, vX0_11, vX0_12, vX0_13, vX0_14, lX0_1, aX0_1, lX0_2, aX0_2, lX0_3, aX0_3, lX0_4, aX0_4, lX0_5, aX0_5, lX0_6, aX0_6, lX0_7, aX0_7, lX0_8, aX0_8, lX0_9, rX0_9, lX0_10, rX0_10, lX0_11, aX0_11, gX0_n, vX0_peopleWith_0, vX0_peopleWith_1, vX0_peopleWith_2, vX0_peopleWith_3, vX0_peopleWith_4, vX0_peopleWith_5, vX0_peopleWith_6, vX0_peopleWith_7, vX0_peopleWith_8, vX0_peopleWith_9, vX0_peopleWith_11, vX0_peopleWith_12, vX0_peopleWith_14, vX0_peopleWith_16, vX0_peopleWith_17, vX0_peopleWith_20, vX0_peopleWith_23, vX0_peopleWith_24, vX0_peopleWith_27, vX0_peopleWith_29, vX0_peopleWith_30, vX0_peopleWith_31, vX0_peopleWith_32, vX0_peopleWith_33, vX0_peopleWith_36, vX0_peopleWith_38, vX0_peopleWith_39, vX0_peopleWith_40, vX0_peopleWith_43, vX0_peopleWith_45, vX0_peopleWith_46, vX0_peopleWith_47, vX0_peopleWith_48, vX0_peopleWith_50, vX0_peopleWith_53, vX0_peopleWith_56, vX0_peopleWith_58, vX0_peopleWith_61, Nat.reduceAdd, Nat.reduceSub, Nat.reduceBEq, Nat.reduceEqDiff, Nat.reduceLeDiff, Int.reduceAdd, Int.reduceSub, Int.reduceNeg, Int.reduceToNat, Int.reduceLE, Int.reduceLT, Int.zero_add, Nat.zero_add, List.toList_toArray, Option.map_some, Bool.or_false, Bool.or_true, Bool.false_or, Bool.true_or, Bool.or_self, cond_false, cond_true, List.length_cons, List.length_nil, true_and, and_true, forall_eq, forall_eq_apply_imp_iff, and_imp, ite_true, ite_false, reduceIte, true_or, or_true, false_or, or_false, false_and, and_false, eq_self, List.drop_succ_cons, List.drop_zero, List.zip_cons_cons, List.zip_nil_right, List.all_cons, List.all_nil, false_implies, true_implies, Bool.true_eq_false, Bool.false_eq_true, not_false_eq_true, not_true_eq_false, mx_u, mx_u2, mx_b0, mx_b1, Bool.not_eq_false, Bool.not_eq_true, Nat.le_refl, ne_eq, mG, mF, mGv, Int32.add_sub_cancel, spX0_peopleWith, spJ6_bitCount_0f7a4, mArg, hb, c1, v1, e1, nI_1]
    rw [orN] at ih
    refine ⟨fun h3 => ?_, fun h3 => ?_⟩
    · rw [if_pos (hpi.mp h3)] at ih
      exact ih
    · rw [if_neg (fun q => h3 (hpi.mpr q)), Int32.or_zero] at ih
      exact ih
set_option maxRecDepth 100000 in
theorem okX0_111 {d : Nat} (hd : 1 + 1 ≤ d) : mOK hX0 0 15 vwC RX0 RX0 d 111 spX0_peopleWith := ⟨yX0_peopleWith, cX0_peopleWith, 6, (some .int), 1, ctX0_peopleWith, hd, by decide, by decide +kernel, by decide +kernel, by decide +kernel, by decide +kernel, fun h => (by cases h), fun _ => ⟨by decide +kernel, by decide +kernel⟩⟩
def spX0_kinOf : mC := mF 2 false (fun σ xs => cOk σ ∧ cIx (mArg xs 0) ∧ cIx (mArg xs 1)) (fun σ xs => cKin σ (mArg xs 0) (mArg xs 1))
set_option maxHeartbeats 8000000 in
set_option maxRecDepth 100000 in
theorem ctX0_kinOf : mCt hX0 0 15 vwC yX0_kinOf cX0_kinOf 4 (some .int) 2 spX0_kinOf := by
  refine mMeet (k := (kX0 [(111, spX0_peopleWith), (107, spX0_basketsWith)])) (bl := 0) (own := RX0) (C := RX0) (T := TX0) (ty0 := tyX0) (by decide +kernel) rfl (tbX0 _) (mCal_cons (okX0_111 (by decide)) (mCal_cons (okX0_107 (by decide)) mCal_nil)) (Or.inl ⟨rfl, rfl, rfl⟩) (by decide) ?_
  intro σ xs hlen hpre X hX
  obtain ⟨a0, a1, rfl⟩ := mx_l2 xs hlen
  change X (0, [some (.ref 0), some (.int a0), some (.int a1), none], [], σ)
  obtain ⟨hok, h0, h1⟩ : cOk σ ∧ cIx a0 ∧ cIx a1 := hpre
  have hm := both_mul0 (st := σ.2 7) hok.2.1.2 a0 a1
  have v0 : vp_in 0 4 := (nI_i (j := 0) (n := 4) (by omega) (by omega)).1
  have z0 : (0 : Int32).toNatClampNeg = 0 := by decide +kernel
  refine mWalk hX [] 60 ?_
  simp only [mRun, mCut, mAt, mSet, mArgs, mFind, mLdI, mLdA, mStI, mInc, mBin, mDiv, mJ1, mJ2, mN1, mN2, mGet, mPut, mLdE, mStE, mLdR, mKon, mDup, mDup2, mAft, mCaV, mCaS, mRetI, mRetV, fX0_18, fX0_21, fX0_24, fX0_27, fX0_30, fX0_33, fX0_36, fX0_39, fX0_44, fX0_47, fX0_50, fX0_53, fX0_57, fX0_60, fX0_83, oX0_117, cX0_c, nX0_0, vX0_0, vX0_1, nX0_2, vX0_2, nX0_3, vX0_3, vX0_4, vX0_5, vX0_6, nX0_7, vX0_7, vX0_8, vX0_9, vX0_10, vX0_11, vX0_12, vX0_13, vX0_14, lX0_1, aX0_1, lX0_2, aX0_2, lX0_3, aX0_3, lX0_4, aX0_4, lX0_5, aX0_5, lX0_6, aX0_6, lX0_7, aX0_7, lX0_8, aX0_8, lX0_9, rX0_9, lX0_10, rX0_10, lX0_11, aX0_11, gX0_n, vX0_kinOf_0, vX0_kinOf_1, vX0_kinOf_2, vX0_kinOf_3, vX0_kinOf_6, vX0_kinOf_7, vX0_kinOf_10, vX0_kinOf_11, vX0_kinOf_12, vX0_kinOf_15, vX0_kinOf_16, vX0_kinOf_17, vX0_kinOf_18, vX0_kinOf_19, vX0_kinOf_20, vX0_kinOf_23, vX0_kinOf_24, vX0_kinOf_25, vX0_kinOf_26, vX0_kinOf_29, vX0_kinOf_30, vX0_kinOf_31, vX0_kinOf_32, vX0_kinOf_35, vX0_kinOf_36, vX0_kinOf_37, vX0_kinOf_40, vX0_kinOf_41, vX0_kinOf_42, vX0_kinOf_43, vX0_kinOf_46, vX0_kinOf_47, vX0_kinOf_48, vX0_kinOf_51, vX0_kinOf_52, vX0_kinOf_53, vX0_kinOf_54, vX0_kinOf_57, vX0_kinOf_58, Nat.reduceAdd, Nat.reduceSub, Nat.reduceBEq, Nat.reduceEqDiff, Nat.reduceLeDiff, Int.reduceAdd, Int.reduceSub, Int.reduceNeg, Int.reduceToNat, Int.reduceLE, Int.reduceLT, Int.zero_add, Nat.zero_add, List.toList_toArray, Option.map_some, Bool.or_false, Bool.or_true, Bool.false_or, Bool.true_or, Bool.or_self, cond_false, cond_true, List.length_cons, List.length_nil, true_and, and_true, forall_eq, forall_eq_apply_imp_iff, and_imp, ite_true, ite_false, reduceIte, true_or, or_true, false_or, or_false, false_and, and_false, eq_self, List.drop_succ_cons, List.drop_zero, List.zip_cons_cons, List.zip_nil_right, List.all_cons, List.all_nil, false_implies, true_implies, Bool.true_eq_false, Bool.false_eq_true, not_false_eq_true, not_true_eq_false, mx_u, mx_u2, mx_b0, mx_b1, Bool.not_eq_false, Bool.not_eq_true, Nat.le_refl, ne_eq, mG, mF, mGv, Int32.add_sub_cancel, spX0_kinOf, spX0_peopleWith, spX0_basketsWith, mArg, hok, h0, h1, v0, z0]
  refine ⟨fun h => ⟨fun h2 => ?_, fun h2 => ⟨h2, ?_⟩⟩, fun h => ?_⟩
  · rcases hm.mp h2 with q | q
    · simp [cKin, kinF, q]
    · simp [cKin, kinF, q]
  · have := Int32.not_lt.mpr h
    have q1 : ¬ bothF (σ.2 7) (cBn σ) a0 a0 = 0 := fun q => h2 (hm.mpr (Or.inl q))
    have q2 : ¬ bothF (σ.2 7) (cBn σ) a1 a1 = 0 := fun q => h2 (hm.mpr (Or.inr q))
    simp [cKin, kinF, this, q1, q2]
  · have := Int32.not_le.mp h
    simp [cKin, kinF, this]
set_option maxRecDepth 100000 in
theorem okX0_114 {d : Nat} (hd : 2 + 1 ≤ d) : mOK hX0 0 15 vwC RX0 RX0 d 114 spX0_kinOf := ⟨yX0_kinOf, cX0_kinOf, 4, (some .int), 2, ctX0_kinOf, hd, by decide, by decide +kernel, by decide +kernel, by decide +kernel, by decide +kernel, fun h => (by cases h), fun _ => ⟨by decide +kernel, by decide +kernel⟩⟩
def spX0_scoreOf : mC := mF 2 false (fun σ xs => cOk σ ∧ cIx (mArg xs 1)) (fun σ xs => scoF (cKin σ) (mArg xs 0) (cTn σ) (mArg xs 1))
set_option maxHeartbeats 8000000 in
set_option maxRecDepth 100000 in
theorem ctX0_scoreOf : mCt hX0 0 15 vwC yX0_scoreOf cX0_scoreOf 5 (some .int) 3 spX0_scoreOf := by
  refine mMeet (k := (kX0 [(67, spX0_has), (114, spX0_kinOf)])) (bl := 0) (own := RX0) (C := RX0) (T := TX0) (ty0 := tyX0) (by decide +kernel) rfl (tbX0 _) (mCal_cons (okX0_67 (by decide)) (mCal_cons (okX0_114 (by decide)) mCal_nil)) (Or.inl ⟨rfl, rfl, rfl⟩) (by decide) ?_
  intro σ xs hlen hpre X hX
  obtain ⟨a0, a1, rfl⟩ := mx_l2 xs hlen
  change X (0, [some (.ref 0), some (.int a0), some (.int a1), none, none], [], σ)
  obtain ⟨hok, h1⟩ : cOk σ ∧ cIx a1 := hpre
  obtain ⟨ht, hn⟩ := hok.1
  have key := mFor (X := X) (cTn σ) (fun i => (5, [some (.ref 0), some (.int a0), some (.int a1), some (.int (scoF (cKin σ) a0 i a1)), some (.int (nI i))], [], σ)) ?_ ?_ 0 (Nat.zero_le _)
  · refine mWalk hX [5] 40 ?_
    simp only [mRun, mCut, mAt, mSet, mArgs, mFind, mLdI, mLdA, mStI, mInc, mBin, mDiv, mJ1, mJ2, mN1, mN2, mGet, mPut, mLdE, mStE, mLdR, mKon, mDup, mDup2, mAft, mCaV, mCaS, mRetI, mRetV, fX0_18, fX0_21, fX0_24, fX0_27, fX0_30, fX0_33, fX0_36, fX0_39, fX0_44, fX0_47, fX0_50, fX0_53, fX0_57, fX0_60, fX0_83, oX0_117, cX0_c, nX0_0, vX0_0, vX0_1, nX0_2, vX0_2, nX0_3, vX0_3, vX0_4, vX0_5, vX0_6, nX0_7, vX0_7, vX0_8, vX0_9, vX0_10, vX0_11, vX0_12, vX0_13, vX0_14, lX0_1, aX0_1, lX0_2, aX0_2, lX0_3, aX0_3, lX0_4, aX0_4, lX0_5, aX0_5, lX0_6, aX0_6, lX0_7, aX0_7, lX0_8, aX0_8, lX0_9, rX0_9, lX0_10, rX0_10, lX0_11, aX0_11, gX0_n, vX0_scoreOf_0, vX0_scoreOf_1, vX0_scoreOf_2, vX0_scoreOf_3, vX0_scoreOf_5, vX0_scoreOf_7, vX0_scoreOf_8, vX0_scoreOf_11, vX0_scoreOf_14, vX0_scoreOf_16, vX0_scoreOf_17, vX0_scoreOf_20, vX0_scoreOf_21, vX0_scoreOf_23, vX0_scoreOf_26, vX0_scoreOf_29, vX0_scoreOf_30, vX0_scoreOf_31, vX0_scoreOf_32, vX0_scoreOf_34, vX0_scoreOf_37, vX0_scoreOf_38, vX0_scoreOf_39, vX0_scoreOf_42, vX0_scoreOf_45, vX0_scoreOf_46, Nat.reduceAdd, Nat.reduceSub, Nat.reduceBEq, Nat.reduceEqDiff, Nat.reduceLeDiff, Int.reduceAdd, Int.reduceSub, Int.reduceNeg, Int.reduceToNat, Int.reduceLE, Int.reduceLT, Int.zero_add, Nat.zero_add, List.toList_toArray, Option.map_some, Bool.or_false, Bool.or_true, Bool.false_or, Bool.true_or, Bool.or_self, cond_false, cond_true, List.length_cons, List.length_nil, true_and, and_true, forall_eq, forall_eq_apply_imp_iff, and_imp, ite_true, ite_false, reduceIte, true_or, or_true, false_or, or_false, false_and, and_false, eq_self, List.drop_succ_cons, List.drop_zero, List.zip_cons_cons, List.zip_nil_right, List.all_cons, List.all_nil, false_implies, true_implies, Bool.true_eq_false, Bool.false_eq_true, not_false_eq_true, not_true_eq_false, mx_u, mx_u2, mx_b0, mx_b1, Bool.not_eq_false, Bool.not_eq_true, Nat.le_refl, ne_eq, mG, mF, mGv, Int32.add_sub_cancel, spX0_scoreOf, spX0_has, spX0_kinOf, mArg]
    exact key
  · refine mWalk hX [5] 40 ?_
    simp only [mRun, mCut, mAt, mSet, mArgs, mFind, mLdI, mLdA, mStI, mInc, mBin, mDiv, mJ1, mJ2, mN1, mN2, mGet, mPut, mLdE, mStE, mLdR, mKon, mDup, mDup2, mAft, mCaV, mCaS, mRetI, mRetV, fX0_18, fX0_21, fX0_24, fX0_27, fX0_30, fX0_33, fX0_36, fX0_39, fX0_44, fX0_47, fX0_50, fX0_53, fX0_57, fX0_60, fX0_83, oX0_117, cX0_c, nX0_0, vX0_0, vX0_1, nX0_2, vX0_2, nX0_3, vX0_3, vX0_4, vX0_5, vX0_6, nX0_7, vX0_7, vX0_8, vX0_9, vX0_10, vX0_11, vX0_12, vX0_13, vX0_14, lX0_1, aX0_1, lX0_2, aX0_2, lX0_3, aX0_3, lX0_4, aX0_4, lX0_5, aX0_5, lX0_6, aX0_6, lX0_7, aX0_7, lX0_8, aX0_8, lX0_9, rX0_9, lX0_10, rX0_10, lX0_11, aX0_11, gX0_n, vX0_scoreOf_0, vX0_scoreOf_1, vX0_scoreOf_2, vX0_scoreOf_3, vX0_scoreOf_5, vX0_scoreOf_7, vX0_scoreOf_8, vX0_scoreOf_11, vX0_scoreOf_14, vX0_scoreOf_16, vX0_scoreOf_17, vX0_scoreOf_20, vX0_scoreOf_21, vX0_scoreOf_23, vX0_scoreOf_26, vX0_scoreOf_29, vX0_scoreOf_30, vX0_scoreOf_31, vX0_scoreOf_32, vX0_scoreOf_34, vX0_scoreOf_37, vX0_scoreOf_38, vX0_scoreOf_39, vX0_scoreOf_42, vX0_scoreOf_45, vX0_scoreOf_46, Nat.reduceAdd, Nat.reduceSub, Nat.reduceBEq, Nat.reduceEqDiff, Nat.reduceLeDiff, Int.reduceAdd, Int.reduceSub, Int.reduceNeg, Int.reduceToNat, Int.reduceLE, Int.reduceLT, Int.zero_add, Nat.zero_add, List.toList_toArray, Option.map_some, Bool.or_false, Bool.or_true, Bool.false_or, Bool.true_or, Bool.or_self, cond_false, cond_true, List.length_cons, List.length_nil, true_and, and_true, forall_eq, forall_eq_apply_imp_iff, and_imp, ite_true, ite_false, reduceIte, true_or, or_true, false_or, or_false, false_and, and_false, eq_self, List.drop_succ_cons, List.drop_zero, List.zip_cons_cons, List.zip_nil_right, List.all_cons, List.all_nil, false_implies, true_implies, Bool.true_eq_false, Bool.false_eq_true, not_false_eq_true, not_true_eq_false, mx_u, mx_u2, mx_b0, mx_b1, Bool.not_eq_false, Bool.not_eq_true, Nat.le_refl, ne_eq, mG, mF, mGv, Int32.add_sub_cancel, spX0_scoreOf, spX0_has, spX0_kinOf, mArg, ht, Int32.le_refl]
  · intro i hi ih
    have c1 : ¬ nI (cTn σ) ≤ nI i := nI_ge hi (by omega)
    have h2 : cIx (nI i) := ⟨i, by omega, rfl⟩
    refine mWalk hX [5] 40 ?_
    simp only [mRun, mCut, mAt, mSet, mArgs, mFind, mLdI, mLdA, mStI, mInc, mBin, mDiv, mJ1, mJ2, mN1, mN2, mGet, mPut, mLdE, mStE, mLdR, mKon, mDup, mDup2, mAft, mCaV, mCaS, mRetI, mRetV, fX0_18, fX0_21, fX0_24, fX0_27, fX0_30, fX0_33, fX0_36, fX0_39, fX0_44, fX0_47, fX0_50, fX0_53, fX0_57, fX0_60, fX0_83, oX0_117, cX0_c, nX0_0, vX0_0, vX0_1, nX0_2, vX0_2, nX0_3, vX0_3, vX0_4, vX0_5, vX0_6, nX0_7, vX0_7, vX0_8, vX0_9, vX0_10, vX0_11, vX0_12, vX0_13, vX0_14, lX0_1, aX0_1, lX0_2, aX0_2, lX0_3, aX0_3, lX0_4, aX0_4, lX0_5, aX0_5, lX0_6, aX0_6, lX0_7, aX0_7, lX0_8, aX0_8, lX0_9, rX0_9, lX0_10, rX0_10, lX0_11, aX0_11, gX0_n, vX0_scoreOf_0, vX0_scoreOf_1, vX0_scoreOf_2, vX0_scoreOf_3, vX0_scoreOf_5, vX0_scoreOf_7, vX0_scoreOf_8, vX0_scoreOf_11, vX0_scoreOf_14, vX0_scoreOf_16, vX0_scoreOf_17, vX0_scoreOf_20, vX0_scoreOf_21, vX0_scoreOf_23, vX0_scoreOf_26, vX0_scoreOf_29, vX0_scoreOf_30, vX0_scoreOf_31, vX0_scoreOf_32, vX0_scoreOf_34, vX0_scoreOf_37, vX0_scoreOf_38, vX0_scoreOf_39, vX0_scoreOf_42, vX0_scoreOf_45, vX0_scoreOf_46, Nat.reduceAdd, Nat.reduceSub, Nat.reduceBEq, Nat.reduceEqDiff, Nat.reduceLeDiff, Int.reduceAdd, Int.reduceSub, Int.reduceNeg, Int.reduceToNat, Int.reduceLE, Int.reduceLT, Int.zero_add, Nat.zero_add, List.toList_toArray, Option.map_some, Bool.or_false, Bool.or_true, Bool.false_or, Bool.true_or, Bool.or_self, cond_false, cond_true, List.length_cons, List.length_nil, true_and, and_true, forall_eq, forall_eq_apply_imp_iff, and_imp, ite_true, ite_false, reduceIte, true_or, or_true, false_or, or_false, false_and, and_false, eq_self, List.drop_succ_cons, List.drop_zero, List.zip_cons_cons, List.zip_nil_right, List.all_cons, List.all_nil, false_implies, true_implies, Bool.true_eq_false, Bool.false_eq_true, not_false_eq_true, not_true_eq_false, mx_u, mx_u2, mx_b0, mx_b1, Bool.not_eq_false, Bool.not_eq_true, Nat.le_refl, ne_eq, mG, mF, mGv, Int32.add_sub_cancel, spX0_scoreOf, spX0_has, spX0_kinOf, mArg, ht, c1, hok, h1, h2, nI_1]
    refine ⟨fun h1 => ?_, fun h1 => ⟨fun h2 => ?_, fun h2 => ?_⟩⟩
    · simpa [scoF, smN, h1] using ih
    · simpa [scoF, smN, h1, h2] using ih
    · simpa [scoF, smN, h1, h2] using ih
set_option maxRecDepth 100000 in
theorem okX0_128 {d : Nat} (hd : 3 + 1 ≤ d) : mOK hX0 0 15 vwC RX0 RX0 d 128 spX0_scoreOf := ⟨yX0_scoreOf, cX0_scoreOf, 5, (some .int), 3, ctX0_scoreOf, hd, by decide, by decide +kernel, by decide +kernel, by decide +kernel, by decide +kernel, fun h => (by cases h), fun _ => ⟨by decide +kernel, by decide +kernel⟩⟩
