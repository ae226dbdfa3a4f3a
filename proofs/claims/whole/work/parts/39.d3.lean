section MMEET
variable {p : Program} {l : Launch} {e : Env} {R : Room} {s : State} {m : MethodId} {args : Array Value} {below : List Frame} {meth : Method} {c : Code}
variable {h : mH} {k : mK} {ci N nL d : Nat} {cl : List vw_C} {D : va_G} {cA cB : ClassId} {ad : Nat → Nat} {A : Nat → Prop} {Qf : State → Prop} {cc : ByteArray} {own C : String} {T : u_T} {ty0 : Nat → FieldType} {bl : Nat} {Q : Int32 → mS → Prop}
/-- the static table of greatest settings -/
def gsT (j : Nat) : Int32 := if j = 0 then 4 else if j = 1 then 5 else 9
def gsZ (A : Nat → Prop) (U : State) : Prop := ∃ t : Nat, va_Z RX0 "GREATEST_SETTINGS" "[I" (.ref t) A U U.heap ∧ va_T .int t 4 (fun j => .int (gsT j)) A U U.heap
/-- a contract with that table among what it asks -/
def mCtS (h : mH) (ci N : Nat) (cl : List vw_C) (y : MethodName) (cc : ByteArray) (maxL : Nat) (ret : Option FieldType) (d : Nat) (cs : mC) : Prop :=
  ∀ (l : Launch) (D : va_G) (cA cB : ClassId) (ad : Nat → Nat) (sz : Nat) (σ : mS) (xs : List Int32), xs.length = cs.1 → cs.2.2.2.1 σ xs →
    Met l y (Cond.code y cc maxL ret :: gW) (mRm d) (va_Pc (mAv cs.2.1 ad xs) (fun U => (U.heap.size = sz ∧ mAtW h ci N cl D cA cB ad (fun _ => True) σ U) ∧ gsZ (va_A (mWs h ci N cA cB ad σ) sz) U))
      (mQc cs.2.2.1 (cs.2.2.2.2 σ xs) (fun u t => mAtW h ci N cl D cA cB ad (va_A (mWs h ci N cA cB ad σ) sz) u t) (va_A (mWs h ci N cA cB ad σ) sz)) 0 0 (va_A (mWs h ci N cA cB ad σ) sz)
def mGst (pg : Nat) (X : mT → Prop) : Prop := ∀ (lv : List (Option Value)) (st : List Value) (σ : mS) (w : Int32), mAt lv 1 = some (.int w) → vp_in w 4 → X (pg + 3 + 1 + 1, lv, .int (gsT w.toNatClampNeg) :: st, σ) → X (pg, lv, st, σ)
set_option maxHeartbeats 4000000 in
theorem mMeetS {y : MethodName} {maxL : Nat} {ret : Option FieldType} {cs : mC} (hy : plainName y.cls = true) (hyo : y.cls = own) (hT : mTb h k ci N cl own C T ty0) (hca : ∀ j cs, mFind k.2.2 j = some cs → mOK h ci N cl C own d j cs)
    (hret : (bl = 0 ∧ cs.2.2.1 = false ∧ ret = some .int) ∨ (bl = 1 ∧ cs.2.2.1 = false ∧ ret = some .boolean) ∨ (bl = 2 ∧ cs.2.2.1 = true ∧ ret = none)) (hmx : cs.1 + (bif cs.2.1 then 0 else 1) ≤ maxL) {jg pg : Nat} (wl : Cond.fieldLink own jg RX0 "GREATEST_SETTINGS" "[I" ∈ gW) (dg1 : decode cc pg = .ok (.getstatic jg, 3)) (dg2 : decode cc (pg + 3) = .ok (.iload_n 1, 1)) (dg3 : decode cc (pg + 3 + 1) = .ok (.iaload, 1))
    (pure : ∀ (σ : mS) (xs : List Int32), xs.length = cs.1 → cs.2.2.2.1 σ xs → ∀ X : mT → Prop, mGo h k cc bl (cs.2.2.2.2 σ xs) X → mGst pg X → X (0, mEn cs.2.1 maxL xs, [], σ)) : mCtS h ci N cl y cc maxL ret d cs := by
  intro l D cA cB ad sz σ xs hlen hpre
  refine Met.ofW (cc := cc) (maxL := maxL) (ret := ret) hy rfl ?_
  intro p e s m args below meth c s₁ B hml hv
  obtain ⟨rfl, ⟨hsz, hP, hK, hD0⟩, t, hZ, hT4⟩ := hv
  have hx := B.exec
  have hb := B.bytes
  have hr := B.returns
  have hts := atoms_spec (ws := Cond.code y cc maxL ret :: gW) B.pre
  have hown : s.vm.findClass own = some m.cls := hyo ▸ findClass_of_methodNamed B.named
  have hlocks := B.notSynchronized
  subst hsz
  have hD := hD0.self (sz := s.heap.size)
  have hS : va_S (va_A (mWs h ci N cA cB ad σ) s.heap.size) s.heap s.heap [] := va_S.rf
  have hA : ∀ q : Nat, s.heap.size ≤ q → va_A (mWs h ci N cA cB ad σ) s.heap.size q := fun q hq => Or.inr hq
  obtain ⟨t1, t2, t3, t4, t5, t6, t7⟩ := hT
  have X : mCtx p s m (mAv cs.2.1 ad xs).toArray c h k ci N maxL cl D cA cB (va_A (mWs h ci N cA cB ad σ) s.heap.size) cc own C T ty0 := ⟨hx, hb, hml, hown, fun w hw => hts w (List.mem_cons_of_mem _ hw), hK, t1, t2, t3, t4, t5, t6, t7, hA⟩
  have hgo : mGo h k cc bl (cs.2.2.2.2 σ xs) (mW p l e (headSpec (Cond.code y cc maxL ret :: gW) (mRm d)).room s m (mAv cs.2.1 ad xs).toArray below meth c h ci N maxL cl D cA cB ad (va_A (mWs h ci N cA cB ad σ) s.heap.size) (MQ below (mQc cs.2.2.1 (cs.2.2.2.2 σ xs) (fun u t => mAtW h ci N cl D cA cB ad (va_A (mWs h ci N cA cB ad σ) s.heap.size) u t) (va_A (mWs h ci N cA cB ad σ) s.heap.size)) (mAv cs.2.1 ad xs).toArray s 0 0 (va_A (mWs h ci N cA cB ad σ) s.heap.size))) := by
    refine ⟨fun S hS => mSound X hca rfl ?_ ?_ S hS, fun pc lv lv' st σ hle hw => mW_le hle hw⟩
    · intro v u H locs ls pc hdg hv hq hP1 hD1 hS1
      rcases hret with ⟨e1, e2, e3⟩ | ⟨e1, e2, e3⟩ | ⟨e1, e2, e3⟩
      · refine W.zret (ty := .int) hx hb (hr.trans e3) rfl (fun t ht hW => ?_) hS1.2.2 hdg
        rw [e2]
        exact ⟨⟨v, u, rfl, hq, by rw [ht]; exact hP1, va_K.moved hW.alike hK, hD1⟩, hS1.F ht⟩
      · refine W.zret (ty := .boolean) hx hb (hr.trans e3) ?_ (fun t ht hW => ?_) hS1.2.2 hdg
        · rcases hv with hv | hv
          · omega
          · rcases hv.2 with rfl | rfl <;> rfl
        · rw [e2]
          exact ⟨⟨v, u, rfl, hq, by rw [ht]; exact hP1, va_K.moved hW.alike hK, hD1⟩, hS1.F ht⟩
      · exfalso
        rcases hv with hv | hv <;> omega
    · intro u H locs ls pc hdg hv hq hP1 hD1 hS1
      rcases hret with ⟨e1, e2, e3⟩ | ⟨e1, e2, e3⟩ | ⟨e1, e2, e3⟩
      · omega
      · omega
      · refine W.vret hx hb (hr.trans e3) (fun t ht hW => ?_) hS1.2.2 hdg
        rw [e2]
        exact ⟨⟨u, rfl, hq, by rw [ht]; exact hP1, va_K.moved hW.alike hK, hD1⟩, hS1.F ht⟩
  have hfin := pure σ xs hlen hpre _ hgo (by
    intro lv st u w hlv hin hw H locs ls hP1 hD1 hS1 hl1
    refine va_gets hx hb hZ hS1 hown (X.2.2.2.2.1 _ wl) (fun _ h9 => h9) dg1 ?_
    refine lv_iload_n hx hb dg2 rfl (hl1.2.2.2 1 _ hlv) ?_
    exact va_ti hx hb hT4 hS1 hin rfl dg3 (hw H locs ls hP1 hD1 hS1 hl1))
  have hlA : (mA0 cs.2.1 xs).length ≤ maxL := by
    unfold mA0
    rw [List.length_append, List.length_map, hlen]
    cases hq : cs.2.1 <;> rw [hq] at hmx <;> simp at hmx ⊢ <;> omega
  have hl := lv_entry (mAv cs.2.1 ad xs) (n := maxL) (by rw [← mA0_cv, mSl, List.length_map]; exact hlA)
  have hls : mLH ad ((lg_sl (mAv cs.2.1 ad xs) ++ List.replicate (maxL - (lg_sl (mAv cs.2.1 ad xs)).length) Slot.unset).toArray) maxL (mEn cs.2.1 maxL xs) := by
    refine ⟨?_, hl.1, hl.2.1, fun i v hi => ?_⟩
    · unfold mEn
      rw [List.length_append, List.length_map, List.length_replicate]
      omega
    · have hv := mAt_en _ _ i v hi
      rw [← mA0_cv, mSl]
      have hil : i < (mA0 cs.2.1 xs).length := (List.getElem?_eq_some_iff.mp hv).1
      rw [List.getElem?_toArray, List.getElem?_append_left (by rw [List.length_map]; exact hil), List.getElem?_map, hv]
      rfl
  rw [lg_entry_eq]
  exact hfin s.heap [] _ hP hD hS hls
end MMEET
def cSetF (σ : mS) (w v : Int32) : Int32 × mS := if isInF w 0 3 = true ∧ isInF v 1 (gsT w.toNatClampNeg) = true then (1, (σ.1, up2 σ.2 1 w.toNatClampNeg v)) else (0, σ)
def spX0_set : mC := mG 2 false (fun _ _ => True) (fun σ xs => cSetF σ (mArg xs 0) (mArg xs 1))
set_option maxHeartbeats 8000000 in
set_option maxRecDepth 100000 in
theorem ctX0_set : mCtS hX0 0 15 vwC yX0_set cX0_set 3 (some .boolean) 0 spX0_set := by
  refine mMeetS (k := kX0 []) (bl := 1) (own := RX0) (C := RX0) (T := TX0) (ty0 := tyX0) (by decide +kernel) rfl (tbX0 _) mCal_nil (Or.inr (Or.inl ⟨rfl, rfl, rfl⟩)) (by decide) (jg := 71) (pg := 15) (by decide +kernel) dX0_set_15 dX0_set_18 dX0_set_19 ?_
  intro σ xs hlen hpre X hX hG
  obtain ⟨a0, a1, rfl⟩ := mx_l2 xs hlen
  change X (0, [some (.ref 0), some (.int a0), some (.int a1)], [], σ)
  by_cases hs : isInF a0 0 3 = true
  · obtain ⟨j, hj, rfl, v1, e1⟩ := isS_ix hs
    have c0 : ¬ nI j < 0 := nI_pos (by omega)
    have c4 : ¬ (4 : Int32) ≤ nI j := nI_ge (b := 4) hj (by omega)
    refine mWalk hX [15] 60 ?_
    simp only [mRun, mCut, mAt, mSet, mArgs, mFind, mLdI, mLdA, mStI, mInc, mBin, mDiv, mJ1, mJ2, mN1, mN2, mGet, mPut, mLdE, mStE, mLdR, mKon, mDup, mDup2, mAft, mCaV, mCaS, mRetI, mRetV, fX0_18, fX0_21, fX0_24, fX0_27, fX0_30, fX0_33, fX0_36, fX0_39, fX0_44, fX0_47, fX0_50, fX0_53, fX0_57, fX0_60, fX0_83, oX0_117, cX0_c, nX0_0, vX0_0, vX0_1, nX0_2, vX0_2, nX0_3, vX0_3, vX0_4, vX0_5, vX0_6, nX0_7, vX0_7, vX0_8, vX0_9, vX0_10, vX0_11, vX0_12, vX0_13, vX0_14, lX0_1, aX0_1, lX0_2, aX0_2, lX0_3, aX0_3, lX0_4, aX0_4, lX0_5, aX0_5, lX0_6, aX0_6, lX0_7, aX0_7, lX0_8, aX0_8, lX0_9, rX0_9, lX0_10, rX0_10, lX0_11, aX0_11, gX0_n, vX0_set_0, vX0_set_1, vX0_set_4, vX0_set_5, vX0_set_6, vX0_set_9, vX0_set_10, vX0_set_11, vX0_set_14, vX0_set_18, vX0_set_19, vX0_set_20, vX0_set_23, vX0_set_24, vX0_set_25, vX0_set_26, vX0_set_29, vX0_set_30, vX0_set_31, vX0_set_32, vX0_set_33, Nat.reduceAdd, Nat.reduceSub, Nat.reduceBEq, Nat.reduceEqDiff, Nat.reduceLeDiff, Int.reduceAdd, Int.reduceSub, Int.reduceNeg, Int.reduceToNat, Int.reduceLE, Int.reduceLT, Int.zero_add, Nat.zero_add, List.toList_toArray, Option.map_some, Bool.or_false, Bool.or_true, Bool.false_or, Bool.true_or, Bool.or_self, cond_false, cond_true, List.length_cons, List.length_nil, true_and, and_true, forall_eq, forall_eq_apply_imp_iff, and_imp, ite_true, ite_false, reduceIte, true_or, or_true, false_or, or_false, false_and, and_false, eq_self, List.drop_succ_cons, List.drop_zero, List.zip_cons_cons, List.zip_nil_right, List.all_cons, List.all_nil, false_implies, true_implies, Bool.true_eq_false, Bool.false_eq_true, not_false_eq_true, not_true_eq_false, mx_u, mx_u2, mx_b0, mx_b1, Bool.not_eq_false, Bool.not_eq_true, Nat.le_refl, ne_eq, mG, mF, mGv, Int32.add_sub_cancel, spX0_set, mArg, c0, c4]
    refine ⟨fun h => ?_, fun h => ?_⟩
    · have e3 : cSetF σ (nI j) a1 = (0, σ) := by
        unfold cSetF isInF
        rw [if_neg (fun q => by simp [Int32.not_le.mpr h] at q)]
      rw [e3]
      exact ⟨rfl, rfl⟩
    · refine hG _ _ _ (nI j) rfl v1 ?_
      rw [e1]
      refine mWalk hX [] 60 ?_
      simp only [mRun, mCut, mAt, mSet, mArgs, mFind, mLdI, mLdA, mStI, mInc, mBin, mDiv, mJ1, mJ2, mN1, mN2, mGet, mPut, mLdE, mStE, mLdR, mKon, mDup, mDup2, mAft, mCaV, mCaS, mRetI, mRetV, fX0_18, fX0_21, fX0_24, fX0_27, fX0_30, fX0_33, fX0_36, fX0_39, fX0_44, fX0_47, fX0_50, fX0_53, fX0_57, fX0_60, fX0_83, oX0_117, cX0_c, nX0_0, vX0_0, vX0_1, nX0_2, vX0_2, nX0_3, vX0_3, vX0_4, vX0_5, vX0_6, nX0_7, vX0_7, vX0_8, vX0_9, vX0_10, vX0_11, vX0_12, vX0_13, vX0_14, lX0_1, aX0_1, lX0_2, aX0_2, lX0_3, aX0_3, lX0_4, aX0_4, lX0_5, aX0_5, lX0_6, aX0_6, lX0_7, aX0_7, lX0_8, aX0_8, lX0_9, rX0_9, lX0_10, rX0_10, lX0_11, aX0_11, gX0_n, vX0_set_0, vX0_set_1, vX0_set_4, vX0_set_5, vX0_set_6, vX0_set_9, vX0_set_10, vX0_set_11, vX0_set_14, vX0_set_18, vX0_set_19, vX0_set_20, vX0_set_23, vX0_set_24, vX0_set_25, vX0_set_26, vX0_set_29, vX0_set_30, vX0_set_31, vX0_set_32, vX0_set_33, Nat.reduceAdd, Nat.reduceSub, Nat.reduceBEq, Nat.reduceEqDiff, Nat.reduceLeDiff, Int.reduceAdd, Int.reduceSub, Int.reduceNeg, Int.reduceToNat, Int.reduceLE, Int.reduceLT, Int.zero_add, Nat.zero_add, List.toList_toArray, Option.map_some, Bool.or_false, Bool.or_true, Bool.false_or, Bool.true_or, Bool.or_self, cond_false, cond_true, List.length_cons, List.length_nil, true_and, and_true, forall_eq, forall_eq_apply_imp_iff, and_imp, ite_true, ite_false, reduceIte, true_or, or_true, false_or, or_false, false_and, and_false, eq_self, List.drop_succ_cons, List.drop_zero, List.zip_cons_cons, List.zip_nil_right, List.all_cons, List.all_nil, false_implies, true_implies, Bool.true_eq_false, Bool.false_eq_true, not_false_eq_true, not_true_eq_false, mx_u, mx_u2, mx_b0, mx_b1, Bool.not_eq_false, Bool.not_eq_true, Nat.le_refl, ne_eq, mG, mF, mGv, Int32.add_sub_cancel, spX0_set, mArg, v1, e1]
      refine ⟨fun h2 => ?_, fun h2 => ?_⟩
      · have e3 : cSetF σ (nI j) a1 = (1, (σ.1, up2 σ.2 1 j a1)) := by
          unfold cSetF
          rw [e1, if_pos ⟨hs, by unfold isInF; simp [Int32.not_lt.mp h, h2]⟩]
        rw [e3]
        exact ⟨rfl, rfl⟩
      · have e3 : cSetF σ (nI j) a1 = (0, σ) := by
          unfold cSetF
          rw [e1, if_neg (fun q => by unfold isInF at q; simp [h2] at q)]
        rw [e3]
        exact ⟨rfl, rfl⟩
  · have e3 : cSetF σ a0 a1 = (0, σ) := by unfold cSetF; rw [if_neg (fun q => hs q.1)]
    refine mWalk hX [9] 60 ?_
    simp only [mRun, mCut, mAt, mSet, mArgs, mFind, mLdI, mLdA, mStI, mInc, mBin, mDiv, mJ1, mJ2, mN1, mN2, mGet, mPut, mLdE, mStE, mLdR, mKon, mDup, mDup2, mAft, mCaV, mCaS, mRetI, mRetV, fX0_18, fX0_21, fX0_24, fX0_27, fX0_30, fX0_33, fX0_36, fX0_39, fX0_44, fX0_47, fX0_50, fX0_53, fX0_57, fX0_60, fX0_83, oX0_117, cX0_c, nX0_0, vX0_0, vX0_1, nX0_2, vX0_2, nX0_3, vX0_3, vX0_4, vX0_5, vX0_6, nX0_7, vX0_7, vX0_8, vX0_9, vX0_10, vX0_11, vX0_12, vX0_13, vX0_14, lX0_1, aX0_1, lX0_2, aX0_2, lX0_3, aX0_3, lX0_4, aX0_4, lX0_5, aX0_5, lX0_6, aX0_6, lX0_7, aX0_7, lX0_8, aX0_8, lX0_9, rX0_9, lX0_10, rX0_10, lX0_11, aX0_11, gX0_n, vX0_set_0, vX0_set_1, vX0_set_4, vX0_set_5, vX0_set_6, vX0_set_9, vX0_set_10, vX0_set_11, vX0_set_14, vX0_set_18, vX0_set_19, vX0_set_20, vX0_set_23, vX0_set_24, vX0_set_25, vX0_set_26, vX0_set_29, vX0_set_30, vX0_set_31, vX0_set_32, vX0_set_33, Nat.reduceAdd, Nat.reduceSub, Nat.reduceBEq, Nat.reduceEqDiff, Nat.reduceLeDiff, Int.reduceAdd, Int.reduceSub, Int.reduceNeg, Int.reduceToNat, Int.reduceLE, Int.reduceLT, Int.zero_add, Nat.zero_add, List.toList_toArray, Option.map_some, Bool.or_false, Bool.or_true, Bool.false_or, Bool.true_or, Bool.or_self, cond_false, cond_true, List.length_cons, List.length_nil, true_and, and_true, forall_eq, forall_eq_apply_imp_iff, and_imp, ite_true, ite_false, reduceIte, true_or, or_true, false_or, or_false, false_and, and_false, eq_self, List.drop_succ_cons, List.drop_zero, List.zip_cons_cons, List.zip_nil_right, List.all_cons, List.all_nil, false_implies, true_implies, Bool.true_eq_false, Bool.false_eq_true, not_false_eq_true, not_true_eq_false, mx_u, mx_u2, mx_b0, mx_b1, Bool.not_eq_false, Bool.not_eq_true, Nat.le_refl, ne_eq, mG, mF, mGv, Int32.add_sub_cancel, spX0_set, mArg, e3]
    refine ⟨fun _ => trivial, fun h1 => ⟨fun _ => trivial, fun h2 => ?_⟩⟩
    exact absurd (by rw [isS_lt]; simp [Int32.not_lt.mp h1, Int32.not_le.mp h2]) hs
