theorem bst_some {f : Int32 → Int32} {s : Int32} : ∀ {n j : Nat}, j < n → n ≤ 12 → hB s (nI j) = true → ¬ bstF f s n = -1
  | n + 1, j, hj, hn, hs => by
    unfold bstF
    by_cases e : j = n
    · subst e
      by_cases q : bstF f s j = -1 ∨ f (bstF f s j) < f (nI j)
      · rw [if_pos ⟨hs, q⟩]
        exact nI_m1 (by omega)
      · rw [if_neg (fun z => q z.2)]
        exact fun z => q (Or.inl z)
    · have ih := bst_some (f := f) (s := s) (n := n) (j := j) (by omega) (by omega) hs
      by_cases q : hB s (nI n) = true ∧ (bstF f s n = -1 ∨ f (bstF f s n) < f (nI n))
      · rw [if_pos q]
        exact nI_m1 (by omega)
      · rw [if_neg q]
        exact ih
theorem hB_clr {l : Int32} {x j : Nat} (hx : x < 32) (hj : j < 32) : hB (l &&& (((1 : Int32) <<< (nI j &&& 31)) ^^^ (-1))) (nI x) = (hB l (nI x) && ! decide (j = x)) := by
  rw [hB_bt hx, hB_bt hx, b_and, b_xor, bt_shl1 hj hx, b_m1 x hx]
  simp
theorem cN_clr {p : Nat → Bool} {j : Nat} (hp : p j = true) : ∀ {n : Nat}, j < n → cN (fun x => p x && ! decide (j = x)) n + 1 = cN p n
  | n + 1, hj => by
    unfold cN
    by_cases e : j = n
    · subst e
      rw [hp]
      have : cN (fun x => p x && ! decide (j = x)) j = cN p j := cN_cong (fun i hi => by
        have : ¬ j = i := by omega
        simp [this])
      simp [this]
    · have ih := cN_clr (p := p) hp (n := n) (by omega)
      have : decide (j = n) = false := decide_eq_false e
      simp only [this, Bool.not_false, Bool.and_true]
      omega
theorem cN_pos {p : Nat → Bool} : ∀ {n : Nat}, 0 < cN p n → ∃ j, j < n ∧ p j = true
  | n + 1, h => by
    by_cases q : p n = true
    · exact ⟨n, by omega, q⟩
    · unfold cN at h
      rw [Bool.not_eq_true] at q
      rw [q] at h
      obtain ⟨j, hj, hp⟩ := cN_pos (n := n) h
      exact ⟨j, by omega, hp⟩
theorem cN_all : ∀ n, cN (fun _ => true) n = n
  | 0 => rfl
  | n + 1 => by unfold cN; rw [cN_all n]; rfl
theorem hB_oth {t a x : Nat} (ht : t ≤ 12) (ha : a < t) (hx : x < t) : hB (((1 : Int32) <<< (nI t &&& 31) - 1) &&& (((1 : Int32) <<< (nI a &&& 31)) ^^^ (-1))) (nI x) = ! decide (a = x) := by
  rw [hB_clr (by omega) (by omega), hB_bt (by omega), all_m1 ht, bt_all (by omega)]
  simp [hx]
/-- the k-th best is there while things are left -/
theorem nr_ok {f : Int32 → Int32} {s : Int32} {t : Nat} (ht : t ≤ 12) {a : Nat} (ha : a < t) (hs : ∀ x, x < t → hB s (nI x) = ! decide (a = x)) : ∀ k, k + 1 ≤ t → cN (fun x => hB (nrF f s t k).2 (nI x)) t + k + 1 = t ∧ (∀ x, x < t → hB (nrF f s t k).2 (nI x) = true → hB s (nI x) = true)
  | 0, _ => by
    refine ⟨?_, fun x _ h => h⟩
    have h1 : cN (fun x => hB (nrF f s t 0).2 (nI x)) t = cN (fun x => true && ! decide (a = x)) t := cN_cong (fun x hx => by
      show hB s (nI x) = _
      rw [hs x hx]
      simp)
    have h2 := cN_clr (p := fun _ => true) (j := a) rfl ha
    rw [cN_all] at h2
    omega
  | k + 1, hk => by
    obtain ⟨h1, h2⟩ := nr_ok (f := f) ht ha hs k (by omega)
    obtain ⟨j, hj, hp⟩ := cN_pos (p := fun x => hB (nrF f s t k).2 (nI x)) (n := t) (by omega)
    have hne := bst_some (f := f) hj ht hp
    rcases bst_ix f (nrF f s t k).2 t with q | ⟨j2, hj2, q, hq⟩
    · exact absurd q hne
    · have e : ∀ x, x < t → hB (nrF f s t (k + 1)).2 (nI x) = (hB (nrF f s t k).2 (nI x) && ! decide (j2 = x)) := by
        intro x hx
        show hB ((nrF f s t k).2 &&& (((1 : Int32) <<< (bstF f (nrF f s t k).2 t &&& 31)) ^^^ (-1))) (nI x) = _
        rw [q, hB_clr (by omega) (by omega)]
      refine ⟨?_, fun x hx h => ?_⟩
      · rw [cN_cong e]
        have := cN_clr (p := fun x => hB (nrF f s t k).2 (nI x)) (j := j2) hq hj2
        omega
      · rw [e x hx] at h
        simp at h
        exact h2 x hx h.1
theorem nr_some {f : Int32 → Int32} {s : Int32} {t : Nat} (ht : t ≤ 12) {a : Nat} (ha : a < t) (hs : ∀ x, x < t → hB s (nI x) = ! decide (a = x)) {k : Nat} (hk : k + 1 < t) : ¬ bstF f (nrF f s t k).2 t = -1 := by
  obtain ⟨h1, h2⟩ := nr_ok (f := f) ht ha hs k (by omega)
  obtain ⟨j, hj, hp⟩ := cN_pos (p := fun x => hB (nrF f s t k).2 (nI x)) (n := t) (by omega)
  exact bst_some hj ht hp
theorem near_lt {x : Int32} {t : Nat} (ht : t ≤ 12) : isInF x 0 (nI t - 2) = (decide (0 ≤ x) && decide (x < nI t - 1)) := by
  have e2 : (nI t - 2).toInt = (t : Int) - ((2 : Nat) : Int) := pk_sub_toInt (a := t) (b := 2) (by omega) (by omega)
  have e1 : (nI t - 1).toInt = (t : Int) - ((1 : Nat) : Int) := pk_sub_toInt (a := t) (b := 1) (by omega) (by omega)
  unfold isInF
  rw [Bool.eq_iff_iff, Bool.and_eq_true, Bool.and_eq_true, decide_eq_true_eq, decide_eq_true_eq, decide_eq_true_eq, Int32.le_iff_toInt_le, Int32.le_iff_toInt_le, Int32.lt_iff_toInt_lt, e1, e2, Int32.toInt_zero]
  omega
theorem cNear_ix {σ : mS} (h : cOk σ) {x : Int32} (hx : isInF x 0 (σ.1 2 - 2) = true) : ∃ j, j + 1 < cTn σ ∧ x = nI j ∧ x.toNatClampNeg = j := by
  obtain ⟨⟨h1, h2⟩, -⟩ := h
  rw [h1, near_lt h2, Bool.and_eq_true, decide_eq_true_eq, decide_eq_true_eq] at hx
  obtain ⟨j, hj, rfl⟩ := nI_of (x := x) (Int32.not_lt.mpr hx.1)
  have h3 := hx.2
  have e1 : (nI (cTn σ) - 1).toInt = (cTn σ : Int) - ((1 : Nat) : Int) := pk_sub_toInt (a := cTn σ) (b := 1) (by omega) (by omega)
  rw [Int32.lt_iff_toInt_lt, e1, nI_toInt hj] at h3
  exact ⟨j, by omega, rfl, nI_clamp hj⟩
def cNearF (σ : mS) (a i : Int32) : Int32 × mS := if cTh σ a = true ∧ isInF i 0 (σ.1 2 - 2) = true then ((nrF (cKin σ a) (cOth σ a) (cTn σ) (i.toNatClampNeg + 1)).1, cWrK σ a (cOth σ a)) else (-1, σ)
def spX0_near : mC := mG 2 false (fun σ _ => cOk σ) (fun σ xs => cNearF σ (mArg xs 0) (mArg xs 1))
set_option maxHeartbeats 8000000 in
set_option maxRecDepth 100000 in
theorem ctX0_near : mCt hX0 0 15 vwC yX0_near cX0_near 7 (some .int) 4 spX0_near := by
  refine mMeet (k := (kX0 [(63, spX0_isThing), (97, spX0_allThings), (118, spX0_writeKin), (121, spX0_bestByPoints)])) (bl := 0) (own := RX0) (C := RX0) (T := TX0) (ty0 := tyX0) (by decide +kernel) rfl (tbX0 _) (mCal_cons (okX0_63 (by decide)) (mCal_cons (okX0_97 (by decide)) (mCal_cons (okX0_118 (by decide)) (mCal_cons (okX0_121 (by decide)) mCal_nil)))) (Or.inl ⟨rfl, rfl, rfl⟩) (by decide) ?_
  intro σ xs hlen hpre X hX
  obtain ⟨a0, a1, rfl⟩ := mx_l2 xs hlen
  change X (0, [some (.ref 0), some (.int a0), some (.int a1), none, none, none, none], [], σ)
  have hok : cOk σ := hpre
  obtain ⟨ht, hn⟩ := hok.1
  have hlt : isInF a1 0 (σ.1 2 - 2) = (decide (0 ≤ a1) && decide (a1 < σ.1 2 - 1)) := by rw [ht]; exact near_lt hn
  by_cases ha : isInF a0 0 (σ.1 2 - 1) = true
  · by_cases hi : isInF a1 0 (σ.1 2 - 2) = true
    · have hix := cTh_ix hok ha
      obtain ⟨a, haa, rfl, -, -⟩ := cThing_ix hok ha
      have hi2 := hi
      rw [hlt, Bool.and_eq_true, decide_eq_true_eq, decide_eq_true_eq] at hi2
      obtain ⟨j, hj, rfl, ej⟩ := cNear_ix hok hi
      have c0 : ¬ nI j < 0 := nI_pos (by omega)
      have c1 := hi2.2
      have hs : ∀ x, x < cTn σ → hB (cOth σ (nI a)) (nI x) = ! decide (a = x) := fun x hx => by
        unfold cOth
        rw [ht]
        exact hB_oth hn haa hx
      have hE : cEq σ (cWrK σ (nI a) (cOth σ (nI a))) := wcG_eq _ _ _ _
      have hok2 := cEq_ok hE hok
      have ht2 := cEq_tn hE
      have hbst : ∀ k, k + 1 < cTn σ → bst0 (bstF (cPt (cWrK σ (nI a) (cOth σ (nI a)))) (nrF (cKin σ (nI a)) (cOth σ (nI a)) (cTn σ) k).2 (cTn σ)) = (nrF (cKin σ (nI a)) (cOth σ (nI a)) (cTn σ) (k + 1)).1 := fun k hk => by
        rw [cWrK_pt hn (nr_ok (f := cKin σ (nI a)) hn haa hs k (by omega)).2]
        unfold bst0
        rw [if_neg (nr_some hn haa hs hk)]
        rfl
      have e0 : ((1 : Int32) <<< (σ.1 2 &&& 31) - 1) &&& (((1 : Int32) <<< (nI a &&& 31)) ^^^ (-1)) = cOth σ (nI a) := rfl
      have hb0 := hbst 0 (by omega)
      have hz0 : (nrF (cKin σ (nI a)) (cOth σ (nI a)) (cTn σ) 0).2 = cOth σ (nI a) := rfl
      rw [hz0] at hb0
      have loop := mFor (X := X) j (fun k => (55, [some (.ref 0), some (.int (nI a)), some (.int (nI j)), some (.int (cOth σ (nI a))), some (.int (nrF (cKin σ (nI a)) (cOth σ (nI a)) (cTn σ) k).2), some (.int (nrF (cKin σ (nI a)) (cOth σ (nI a)) (cTn σ) (k + 1)).1), some (.int (nI k))], [], cWrK σ (nI a) (cOth σ (nI a)))) ?_ ?_ 0 (Nat.zero_le _)
      · refine mWalk hX [35] 60 ?_
        simp only [mRun, mCut, mAt, mSet, mArgs, mFind, mLdI, mLdA, mStI, mInc, mBin, mDiv, mJ1, mJ2, mN1, mN2, mGet, mPut, mLdE, mStE, mLdR, mKon, mDup, mDup2, mAft, mCaV, mCaS, mRetI, mRetV, fX0_18, fX0_21, fX0_24, fX0_27, fX0_30, fX0_33, fX0_36, fX0_39, fX0_44, fX0_47, fX0_50, fX0_53, fX0_57, fX0_60, fX0_83, oX0_117, cX0_c, nX0_0, vX0_0, vX0_1, nX0_2, vX0_2, nX0_3, vX0_3, vX0_4, vX0_5, vX0_6, nX0_7, vX0_7, vX0_8, vX0_9, vX0_10, vX0_11, vX0_12, vX0_13, vX0_14, lX0_1, aX0_1, lX0_2, aX0_2, lX0_3, aX0_3, lX0_4, aX0_4, lX0_5, aX0_5, lX0_6, aX0_6, lX0_7, aX0_7, lX0_8, aX0_8, lX0_9, rX0_9, lX0_10, rX0_10, lX0_11, aX0_11, gX0_n, vX0_near_0, vX0_near_1, vX0_near_2, vX0_near_5, vX0_near_8, vX0_near_9, vX0_near_12, vX0_near_13, vX0_near_14, vX0_near_17, vX0_near_18, vX0_near_19, vX0_near_22, vX0_near_23, vX0_near_24, vX0_near_25, vX0_near_28, vX0_near_29, vX0_near_30, vX0_near_31, vX0_near_32, vX0_near_33, vX0_near_34, vX0_near_35, vX0_near_36, vX0_near_37, vX0_near_38, vX0_near_41, vX0_near_42, vX0_near_44, vX0_near_45, vX0_near_47, vX0_near_50, vX0_near_52, vX0_near_53, vX0_near_55, vX0_near_57, vX0_near_58, vX0_near_61, vX0_near_63, vX0_near_64, vX0_near_66, vX0_near_67, vX0_near_68, vX0_near_69, vX0_near_70, vX0_near_72, vX0_near_73, vX0_near_75, vX0_near_78, vX0_near_80, vX0_near_83, vX0_near_86, vX0_near_88, Nat.reduceAdd, Nat.reduceSub, Nat.reduceBEq, Nat.reduceEqDiff, Nat.reduceLeDiff, Int.reduceAdd, Int.reduceSub, Int.reduceNeg, Int.reduceToNat, Int.reduceLE, Int.reduceLT, Int.zero_add, Nat.zero_add, List.toList_toArray, Option.map_some, Bool.or_false, Bool.or_true, Bool.false_or, Bool.true_or, Bool.or_self, cond_false, cond_true, List.length_cons, List.length_nil, true_and, and_true, forall_eq, forall_eq_apply_imp_iff, and_imp, ite_true, ite_false, reduceIte, true_or, or_true, false_or, or_false, false_and, and_false, eq_self, List.drop_succ_cons, List.drop_zero, List.zip_cons_cons, List.zip_nil_right, List.all_cons, List.all_nil, false_implies, true_implies, Bool.true_eq_false, Bool.false_eq_true, not_false_eq_true, not_true_eq_false, mx_u, mx_u2, mx_b0, mx_b1, Bool.not_eq_false, Bool.not_eq_true, Nat.le_refl, ne_eq, mG, mF, mGv, Int32.add_sub_cancel, spX0_near, spX0_isThing, spX0_allThings, spX0_writeKin, spX0_bestByPoints, mArg, ha, hok, c0, c1]
        rw [e0]
        refine mWalk hX [55] 60 ?_
        simp only [mRun, mCut, mAt, mSet, mArgs, mFind, mLdI, mLdA, mStI, mInc, mBin, mDiv, mJ1, mJ2, mN1, mN2, mGet, mPut, mLdE, mStE, mLdR, mKon, mDup, mDup2, mAft, mCaV, mCaS, mRetI, mRetV, fX0_18, fX0_21, fX0_24, fX0_27, fX0_30, fX0_33, fX0_36, fX0_39, fX0_44, fX0_47, fX0_50, fX0_53, fX0_57, fX0_60, fX0_83, oX0_117, cX0_c, nX0_0, vX0_0, vX0_1, nX0_2, vX0_2, nX0_3, vX0_3, vX0_4, vX0_5, vX0_6, nX0_7, vX0_7, vX0_8, vX0_9, vX0_10, vX0_11, vX0_12, vX0_13, vX0_14, lX0_1, aX0_1, lX0_2, aX0_2, lX0_3, aX0_3, lX0_4, aX0_4, lX0_5, aX0_5, lX0_6, aX0_6, lX0_7, aX0_7, lX0_8, aX0_8, lX0_9, rX0_9, lX0_10, rX0_10, lX0_11, aX0_11, gX0_n, vX0_near_0, vX0_near_1, vX0_near_2, vX0_near_5, vX0_near_8, vX0_near_9, vX0_near_12, vX0_near_13, vX0_near_14, vX0_near_17, vX0_near_18, vX0_near_19, vX0_near_22, vX0_near_23, vX0_near_24, vX0_near_25, vX0_near_28, vX0_near_29, vX0_near_30, vX0_near_31, vX0_near_32, vX0_near_33, vX0_near_34, vX0_near_35, vX0_near_36, vX0_near_37, vX0_near_38, vX0_near_41, vX0_near_42, vX0_near_44, vX0_near_45, vX0_near_47, vX0_near_50, vX0_near_52, vX0_near_53, vX0_near_55, vX0_near_57, vX0_near_58, vX0_near_61, vX0_near_63, vX0_near_64, vX0_near_66, vX0_near_67, vX0_near_68, vX0_near_69, vX0_near_70, vX0_near_72, vX0_near_73, vX0_near_75, vX0_near_78, vX0_near_80, vX0_near_83, vX0_near_86, vX0_near_88, Nat.reduceAdd, Nat.reduceSub, Nat.reduceBEq, Nat.reduceEqDiff, Nat.reduceLeDiff, Int.reduceAdd, Int.reduceSub, Int.reduceNeg, Int.reduceToNat, Int.reduceLE, Int.reduceLT, Int.zero_add, Nat.zero_add, List.toList_toArray, Option.map_some, Bool.or_false, Bool.or_true, Bool.false_or, Bool.true_or, Bool.or_self, cond_false, cond_true, List.length_cons, List.length_nil, true_and, and_true, forall_eq, forall_eq_apply_imp_iff, and_imp, ite_true, ite_false, reduceIte, true_or, or_true, false_or, or_false, false_and, and_false, eq_self, List.drop_succ_cons, List.drop_zero, List.zip_cons_cons, List.zip_nil_right, List.all_cons, List.all_nil, false_implies, true_implies, Bool.true_eq_false, Bool.false_eq_true, not_false_eq_true, not_true_eq_false, mx_u, mx_u2, mx_b0, mx_b1, Bool.not_eq_false, Bool.not_eq_true, Nat.le_refl, ne_eq, mG, mF, mGv, Int32.add_sub_cancel, spX0_near, spX0_isThing, spX0_allThings, spX0_writeKin, spX0_bestByPoints, mArg, hok, hix, hok2, ht2, hb0]
        exact loop
      · refine mWalk hX [55] 60 ?_
        simp only [mRun, mCut, mAt, mSet, mArgs, mFind, mLdI, mLdA, mStI, mInc, mBin, mDiv, mJ1, mJ2, mN1, mN2, mGet, mPut, mLdE, mStE, mLdR, mKon, mDup, mDup2, mAft, mCaV, mCaS, mRetI, mRetV, fX0_18, fX0_21, fX0_24, fX0_27, fX0_30, fX0_33, fX0_36, fX0_39, fX0_44, fX0_47, fX0_50, fX0_53, fX0_57, fX0_60, fX0_83, oX0_117, cX0_c, nX0_0, vX0_0, vX0_1, nX0_2, vX0_2, nX0_3, vX0_3, vX0_4, vX0_5, vX0_6, nX0_7, vX0_7, vX0_8, vX0_9, vX0_10, vX0_11, vX0_12, vX0_13, vX0_14, lX0_1, aX0_1, lX0_2, aX0_2, lX0_3, aX0_3, lX0_4, aX0_4, lX0_5, aX0_5, lX0_6, aX0_6, lX0_7, aX0_7, lX0_8, aX0_8, lX0_9, rX0_9, lX0_10, rX0_10, lX0_11, aX0_11, gX0_n, vX0_near_0, vX0_near_1, vX0_near_2, vX0_near_5, vX0_near_8, vX0_near_9, vX0_near_12, vX0_near_13, vX0_near_14, vX0_near_17, vX0_near_18, vX0_near_19, vX0_near_22, vX0_near_23, vX0_near_24, vX0_near_25, vX0_near_28, vX0_near_29, vX0_near_30, vX0_near_31, vX0_near_32, vX0_near_33, vX0_near_34, vX0_near_35, vX0_near_36, vX0_near_37, vX0_near_38, vX0_near_41, vX0_near_42, vX0_near_44, vX0_near_45, vX0_near_47, vX0_near_50, vX0_near_52, vX0_near_53, vX0_near_55, vX0_near_57, vX0_near_58, vX0_near_61, vX0_near_63, vX0_near_64, vX0_near_66, vX0_near_67, vX0_near_68, vX0_near_69, vX0_near_70, vX0_near_72, vX0_near_73, vX0_near_75, vX0_near_78, vX0_near_80, vX0_near_83, vX0_near_86, vX0_near_88, Nat.reduceAdd, Nat.reduceSub, Nat.reduceBEq, Nat.reduceEqDiff, Nat.reduceLeDiff, Int.reduceAdd, Int.reduceSub, Int.reduceNeg, Int.reduceToNat, Int.reduceLE, Int.reduceLT, Int.zero_add, Nat.zero_add, List.toList_toArray, Option.map_some, Bool.or_false, Bool.or_true, Bool.false_or, Bool.true_or, Bool.or_self, cond_false, cond_true, List.length_cons, List.length_nil, true_and, and_true, forall_eq, forall_eq_apply_imp_iff, and_imp, ite_true, ite_false, reduceIte, true_or, or_true, false_or, or_false, false_and, and_false, eq_self, List.drop_succ_cons, List.drop_zero, List.zip_cons_cons, List.zip_nil_right, List.all_cons, List.all_nil, false_implies, true_implies, Bool.true_eq_false, Bool.false_eq_true, not_false_eq_true, not_true_eq_false, mx_u, mx_u2, mx_b0, mx_b1, Bool.not_eq_false, Bool.not_eq_true, Nat.le_refl, ne_eq, mG, mF, mGv, Int32.add_sub_cancel, spX0_near, spX0_isThing, spX0_allThings, spX0_writeKin, spX0_bestByPoints, mArg, Int32.le_refl]
        have g1 : cTh σ (nI a) = true := ha
        simp [cNearF, g1, hi, ej]
      · intro k hk ih
        have c2 : ¬ nI j ≤ nI k := nI_ge hk (by omega)
        have hbk := hbst (k + 1) (by omega)
        have hz2 : (nrF (cKin σ (nI a)) (cOth σ (nI a)) (cTn σ) k).2 &&& ((1 : Int32) <<< ((nrF (cKin σ (nI a)) (cOth σ (nI a)) (cTn σ) (k + 1)).1 &&& 31) ^^^ (-1)) = (nrF (cKin σ (nI a)) (cOth σ (nI a)) (cTn σ) (k + 1)).2 := rfl
        refine mWalk hX [55] 60 ?_
        simp only [mRun, mCut, mAt, mSet, mArgs, mFind, mLdI, mLdA, mStI, mInc, mBin, mDiv, mJ1, mJ2, mN1, mN2, mGet, mPut, mLdE, mStE, mLdR, mKon, mDup, mDup2, mAft, mCaV, mCaS, mRetI, mRetV, fX0_18, fX0_21, fX0_24, fX0_27, fX0_30, fX0_33, fX0_36, fX0_39, fX0_44, fX0_47, fX0_50, fX0_53, fX0_57, fX0_60, fX0_83, oX0_117, cX0_c, nX0_0, vX0_0, vX0_1, nX0_2, vX0_2, nX0_3, vX0_3, vX0_4, vX0_5, vX0_6, nX0_7, vX0_7, vX0_8, vX0_9, vX0_10, vX0_11, vX0_12, vX0_13, vX0_14, lX0_1, aX0_1, lX0_2, aX0_2, lX0_3, aX0_3, lX0_4, aX0_4, lX0_5, aX0_5, lX0_6, aX0_6, lX0_7, aX0_7, lX0_8, aX0_8, lX0_9, rX0_9, lX0_10, rX0_10, lX0_11, aX0_11, gX0_n, vX0_near_0, vX0_near_1, vX0_near_2, vX0_near_5, vX0_near_8, vX0_near_9, vX0_near_12, vX0_near_13, vX0_near_14, vX0_near_17, vX0_near_18, vX0_near_19, vX0_near_22, vX0_near_23, vX0_near_24, vX0_near_25, vX0_near_28, vX0_near_29, vX0_near_30, vX0_near_31, vX0_near_32, vX0_near_33, vX0_near_34, vX0_near_35, vX0_near_36, vX0_near_37, vX0_near_38, vX0_near_41, vX0_near_42, vX0_near_44, vX0_near_45, vX0_near_47, vX0_near_50, vX0_near_52, vX0_near_53, vX0_near_55, vX0_near_57, vX0_near_58, vX0_near_61, vX0_near_63, vX0_near_64, vX0_near_66, vX0_near_67, vX0_near_68, vX0_near_69, vX0_near_70, vX0_near_72, vX0_near_73, vX0_near_75, vX0_near_78, vX0_near_80, vX0_near_83, vX0_near_86, vX0_near_88, Nat.reduceAdd, Nat.reduceSub, Nat.reduceBEq, Nat.reduceEqDiff, Nat.reduceLeDiff, Int.reduceAdd, Int.reduceSub, Int.reduceNeg, Int.reduceToNat, Int.reduceLE, Int.reduceLT, Int.zero_add, Nat.zero_add, List.toList_toArray, Option.map_some, Bool.or_false, Bool.or_true, Bool.false_or, Bool.true_or, Bool.or_self, cond_false, cond_true, List.length_cons, List.length_nil, true_and, and_true, forall_eq, forall_eq_apply_imp_iff, and_imp, ite_true, ite_false, reduceIte, true_or, or_true, false_or, or_false, false_and, and_false, eq_self, List.drop_succ_cons, List.drop_zero, List.zip_cons_cons, List.zip_nil_right, List.all_cons, List.all_nil, false_implies, true_implies, Bool.true_eq_false, Bool.false_eq_true, not_false_eq_true, not_true_eq_false, mx_u, mx_u2, mx_b0, mx_b1, Bool.not_eq_false, Bool.not_eq_true, Nat.le_refl, ne_eq, mG, mF, mGv, Int32.add_sub_cancel, spX0_near, spX0_isThing, spX0_allThings, spX0_writeKin, spX0_bestByPoints, mArg, c2, hok2, ht2, hz2, hbk, nI_1]
        exact ih
    · refine mWalk hX [22] 60 ?_
      simp only [mRun, mCut, mAt, mSet, mArgs, mFind, mLdI, mLdA, mStI, mInc, mBin, mDiv, mJ1, mJ2, mN1, mN2, mGet, mPut, mLdE, mStE, mLdR, mKon, mDup, mDup2, mAft, mCaV, mCaS, mRetI, mRetV, fX0_18, fX0_21, fX0_24, fX0_27, fX0_30, fX0_33, fX0_36, fX0_39, fX0_44, fX0_47, fX0_50, fX0_53, fX0_57, fX0_60, fX0_83, oX0_117, cX0_c, nX0_0, vX0_0, vX0_1, nX0_2, vX0_2, nX0_3, vX0_3, vX0_4, vX0_5, vX0_6, nX0_7, vX0_7, vX0_8, vX0_9, vX0_10, vX0_11, vX0_12, vX0_13, vX0_14, lX0_1, aX0_1, lX0_2, aX0_2, lX0_3, aX0_3, lX0_4, aX0_4, lX0_5, aX0_5, lX0_6, aX0_6, lX0_7, aX0_7, lX0_8, aX0_8, lX0_9, rX0_9, lX0_10, rX0_10, lX0_11, aX0_11, gX0_n, vX0_near_0, vX0_near_1, vX0_near_2, vX0_near_5, vX0_near_8, vX0_near_9, vX0_near_12, vX0_near_13, vX0_near_14, vX0_near_17, vX0_near_18, vX0_near_19, vX0_near_22, vX0_near_23, vX0_near_24, vX0_near_25, vX0_near_28, vX0_near_29, vX0_near_30, vX0_near_31, vX0_near_32, vX0_near_33, vX0_near_34, vX0_near_35, vX0_near_36, vX0_near_37, vX0_near_38, vX0_near_41, vX0_near_42, vX0_near_44, vX0_near_45, vX0_near_47, vX0_near_50, vX0_near_52, vX0_near_53, vX0_near_55, vX0_near_57, vX0_near_58, vX0_near_61, vX0_near_63, vX0_near_64, vX0_near_66, vX0_near_67, vX0_near_68, vX0_near_69, vX0_near_70, vX0_near_72, vX0_near_73, vX0_near_75, vX0_near_78, vX0_near_80, vX0_near_83, vX0_near_86, vX0_near_88, Nat.reduceAdd, Nat.reduceSub, Nat.reduceBEq, Nat.reduceEqDiff, Nat.reduceLeDiff, Int.reduceAdd, Int.reduceSub, Int.reduceNeg, Int.reduceToNat, Int.reduceLE, Int.reduceLT, Int.zero_add, Nat.zero_add, List.toList_toArray, Option.map_some, Bool.or_false, Bool.or_true, Bool.false_or, Bool.true_or, Bool.or_self, cond_false, cond_true, List.length_cons, List.length_nil, true_and, and_true, forall_eq, forall_eq_apply_imp_iff, and_imp, ite_true, ite_false, reduceIte, true_or, or_true, false_or, or_false, false_and, and_false, eq_self, List.drop_succ_cons, List.drop_zero, List.zip_cons_cons, List.zip_nil_right, List.all_cons, List.all_nil, false_implies, true_implies, Bool.true_eq_false, Bool.false_eq_true, not_false_eq_true, not_true_eq_false, mx_u, mx_u2, mx_b0, mx_b1, Bool.not_eq_false, Bool.not_eq_true, Nat.le_refl, ne_eq, mG, mF, mGv, Int32.add_sub_cancel, spX0_near, spX0_isThing, spX0_allThings, spX0_writeKin, spX0_bestByPoints, mArg, ha, hok]
      have e3 : cNearF σ a0 a1 = (-1, σ) := by unfold cNearF; rw [if_neg (fun q => hi q.2)]
      have fin : X (22, [some (.ref 0), some (.int a0), some (.int a1), none, none, none, none], [], σ) := by
        refine mWalk hX [] 60 ?_
        simp only [mRun, mCut, mAt, mSet, mArgs, mFind, mLdI, mLdA, mStI, mInc, mBin, mDiv, mJ1, mJ2, mN1, mN2, mGet, mPut, mLdE, mStE, mLdR, mKon, mDup, mDup2, mAft, mCaV, mCaS, mRetI, mRetV, fX0_18, fX0_21, fX0_24, fX0_27, fX0_30, fX0_33, fX0_36, fX0_39, fX0_44, fX0_47, fX0_50, fX0_53, fX0_57, fX0_60, fX0_83, oX0_117, cX0_c, nX0_0, vX0_0, vX0_1, nX0_2, vX0_2, nX0_3, vX0_3, vX0_4, vX0_5, vX0_6, nX0_7, vX0_7, vX0_8, vX0_9, vX0_10, vX0_11, vX0_12, vX0_13, vX0_14, lX0_1, aX0_1, lX0_2, aX0_2, lX0_3, aX0_3, lX0_4, aX0_4, lX0_5, aX0_5, lX0_6, aX0_6, lX0_7, aX0_7, lX0_8, aX0_8, lX0_9, rX0_9, lX0_10, rX0_10, lX0_11, aX0_11, gX0_n, vX0_near_0, vX0_near_1, vX0_near_2, vX0_near_5, vX0_near_8, vX0_near_9, vX0_near_12, vX0_near_13, vX0_near_14, vX0_near_17, vX0_near_18, vX0_near_19, vX0_near_22, vX0_near_23, vX0_near_24, vX0_near_25, vX0_near_28, vX0_near_29, vX0_near_30, vX0_near_31, vX0_near_32, vX0_near_33, vX0_near_34, vX0_near_35, vX0_near_36, vX0_near_37, vX0_near_38, vX0_near_41, vX0_near_42, vX0_near_44, vX0_near_45, vX0_near_47, vX0_near_50, vX0_near_52, vX0_near_53, vX0_near_55, vX0_near_57, vX0_near_58, vX0_near_61, vX0_near_63, vX0_near_64, vX0_near_66, vX0_near_67, vX0_near_68, vX0_near_69, vX0_near_70, vX0_near_72, vX0_near_73, vX0_near_75, vX0_near_78, vX0_near_80, vX0_near_83, vX0_near_86, vX0_near_88, Nat.reduceAdd, Nat.reduceSub, Nat.reduceBEq, Nat.reduceEqDiff, Nat.reduceLeDiff, Int.reduceAdd, Int.reduceSub, Int.reduceNeg, Int.reduceToNat, Int.reduceLE, Int.reduceLT, Int.zero_add, Nat.zero_add, List.toList_toArray, Option.map_some, Bool.or_false, Bool.or_true, Bool.false_or, Bool.true_or, Bool.or_self, cond_false, cond_true, List.length_cons, List.length_nil, true_and, and_true, forall_eq, forall_eq_apply_imp_iff, and_imp, ite_true, ite_false, reduceIte, true_or, or_true, false_or, or_false, false_and, and_false, eq_self, List.drop_succ_cons, List.drop_zero, List.zip_cons_cons, List.zip_nil_right, List.all_cons, List.all_nil, false_implies, true_implies, Bool.true_eq_false, Bool.false_eq_true, not_false_eq_true, not_true_eq_false, mx_u, mx_u2, mx_b0, mx_b1, Bool.not_eq_false, Bool.not_eq_true, Nat.le_refl, ne_eq, mG, mF, mGv, Int32.add_sub_cancel, spX0_near, spX0_isThing, spX0_allThings, spX0_writeKin, spX0_bestByPoints, mArg, e3]
      refine ⟨fun _ => fin, fun h1 => ⟨fun h2 => ?_, fun _ => fin⟩⟩
      refine absurd ?_ hi
      rw [hlt]
      simp [Int32.not_lt.mp h1, h2]
  · have e3 : cNearF σ a0 a1 = (-1, σ) := by unfold cNearF; rw [if_neg (fun q => ha q.1)]
    refine mWalk hX [] 60 ?_
    simp only [mRun, mCut, mAt, mSet, mArgs, mFind, mLdI, mLdA, mStI, mInc, mBin, mDiv, mJ1, mJ2, mN1, mN2, mGet, mPut, mLdE, mStE, mLdR, mKon, mDup, mDup2, mAft, mCaV, mCaS, mRetI, mRetV, fX0_18, fX0_21, fX0_24, fX0_27, fX0_30, fX0_33, fX0_36, fX0_39, fX0_44, fX0_47, fX0_50, fX0_53, fX0_57, fX0_60, fX0_83, oX0_117, cX0_c, nX0_0, vX0_0, vX0_1, nX0_2, vX0_2, nX0_3, vX0_3, vX0_4, vX0_5, vX0_6, nX0_7, vX0_7, vX0_8, vX0_9, vX0_10, vX0_11, vX0_12, vX0_13, vX0_14, lX0_1, aX0_1, lX0_2, aX0_2, lX0_3, aX0_3, lX0_4, aX0_4, lX0_5, aX0_5, lX0_6, aX0_6, lX0_7, aX0_7, lX0_8, aX0_8, lX0_9, rX0_9, lX0_10, rX0_10, lX0_11, aX0_11, gX0_n, vX0_near_0, vX0_near_1, vX0_near_2, vX0_near_5, vX0_near_8, vX0_near_9, vX0_near_12, vX0_near_13, vX0_near_14, vX0_near_17, vX0_near_18, vX0_near_19, vX0_near_22, vX0_near_23, vX0_near_24, vX0_near_25, vX0_near_28, vX0_near_29, vX0_near_30, vX0_near_31, vX0_near_32, vX0_near_33, vX0_near_34, vX0_near_35, vX0_near_36, vX0_near_37, vX0_near_38, vX0_near_41, vX0_near_42, vX0_near_44, vX0_near_45, vX0_near_47, vX0_near_50, vX0_near_52, vX0_near_53, vX0_near_55, vX0_near_57, vX0_near_58, vX0_near_61, vX0_near_63, vX0_near_64, vX0_near_66, vX0_near_67, vX0_near_68, vX0_near_69, vX0_near_70, vX0_near_72, vX0_near_73, vX0_near_75, vX0_near_78, vX0_near_80, vX0_near_83, vX0_near_86, vX0_near_88, Nat.reduceAdd, Nat.reduceSub, Nat.reduceBEq, Nat.reduceEqDiff, Nat.reduceLeDiff, Int.reduceAdd, Int.reduceSub, Int.reduceNeg, Int.reduceToNat, Int.reduceLE, Int.reduceLT, Int.zero_add, Nat.zero_add, List.toList_toArray, Option.map_some, Bool.or_false, Bool.or_true, Bool.false_or, Bool.true_or, Bool.or_self, cond_false, cond_true, List.length_cons, List.length_nil, true_and, and_true, forall_eq, forall_eq_apply_imp_iff, and_imp, ite_true, ite_false, reduceIte, true_or, or_true, false_or, or_false, false_and, and_false, eq_self, List.drop_succ_cons, List.drop_zero, List.zip_cons_cons, List.zip_nil_right, List.all_cons, List.all_nil, false_implies, true_implies, Bool.true_eq_false, Bool.false_eq_true, not_false_eq_true, not_true_eq_false, mx_u, mx_u2, mx_b0, mx_b1, Bool.not_eq_false, Bool.not_eq_true, Nat.le_refl, ne_eq, mG, mF, mGv, Int32.add_sub_cancel, spX0_near, spX0_isThing, spX0_allThings, spX0_writeKin, spX0_bestByPoints, mArg, ha, hok, e3]
