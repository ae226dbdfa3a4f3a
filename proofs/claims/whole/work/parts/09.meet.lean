section MMEET
variable {p : Program} {l : Launch} {e : Env} {R : Room} {s : State} {m : MethodId} {args : Array Value} {below : List Frame} {meth : Method} {c : Code}
variable {h : mH} {k : mK} {ci N nL d : Nat} {cl : List vw_C} {D : va_G} {cA cB : ClassId} {ad : Nat → Nat} {A : Nat → Prop} {Qf : State → Prop} {cc : ByteArray} {own C : String} {T : u_T} {ty0 : Nat → FieldType} {bl : Nat} {Q : Int32 → mS → Prop}
theorem gW_cons {w : Cond} (h : w ∈ gW) : GoodIn gW (w :: gW) := fun q hq => by
  rcases List.mem_cons.mp hq with rfl | hq
  · exact gW_good _ h
  · exact gW_good _ hq
theorem mBlind {h : mH} {ci N sz : Nat} {cl : List vw_C} {D : va_G} {cA cB : ClassId} {ad : Nat → Nat} {A : Nat → Prop} {σ : mS} {av : List Value} : FrameBlind (va_Pc av (fun U => U.heap.size = sz ∧ mAtW h ci N cl D cA cB ad A σ U)) := fun a U g mk q => by
  obtain ⟨q0, q1, qP, qK, qD⟩ := q
  exact ⟨q0, q1, qP, va_K.moved (u := U) (U := U.calling g mk a) (Vm.Alike.refl U.vm) qK, qD⟩
theorem mFree {H : Heap} {locs : List Loc} {σ : mS} (hA : ∀ q : Nat, s.heap.size ≤ q → A q) (hD : va_D A (mWs h ci N cA cB ad σ)) (hS : va_S A s.heap H locs) : ∀ q, va_A (mWs h ci N cA cB ad σ) H.size q → A q := fun q hq => by
  rcases hq with ⟨i, e, hi⟩ | hq
  · exact hD.2 i _ hi
  · exact hA q (Nat.le_trans hS.1 hq)
theorem mS_aft {pc : Nat} {vd : Bool} {lv : List (Option Value)} {σ : mS} {st' st0 : List Value} {post : mS → List Int32 → Int32 → mS → Prop} {xs : List Int32} {H : Heap} {locs : List Loc} {ls : Array Slot} (a : Array Value) (X : mCtx p s m args c h k ci N nL cl D cA cB A cc own C T ty0)
    (hk : ∀ r σ', post σ xs r σ' → mAft (mW p l e R s m args below meth c h ci N nL cl D cA cB ad A Qf) (pc + 3) lv st' vd r σ') (hD : va_D A (mWs h ci N cA cB ad σ)) (hS : va_S A s.heap H locs) (hl : mLH ad ls nL lv)
    (hr : va_Run p l e R s m args below meth c H locs 0 0 0 0 (F0 m pc ls st0) (st'.map (cv ad)) (mQc vd (post σ xs) (fun u t => mAtW h ci N cl D cA cB ad (va_A (mWs h ci N cA cB ad σ) H.size) u t) (va_A (mWs h ci N cA cB ad σ) H.size) a) (va_A (mWs h ci N cA cB ad σ) H.size)) : W p l e R s m args below meth c H locs 0 0 Qf (F0 m pc ls st0) := by
  have hF := mFree X.2.2.2.2.2.2.2.2.2.2.2.2.2 hD hS
  cases vd with
  | false =>
    refine va_calli (a := a) (post := post σ xs) (B := fun u t => mAtW h ci N cl D cA cB ad (va_A (mWs h ci N cA cB ad σ) H.size) u t) hr hS (fun q _ hq => hF q hq) hF (fun r u t H1 locs1 ht hvm hpo hB hz hk1 hS1 => ?_)
    obtain ⟨hP1, -, -⟩ := hB
    rw [ht] at hP1
    exact hk r u hpo H1 locs1 ls hP1 (mWs_D σ u hD) hS1 hl
  | true =>
    refine va_callv (a := a) (post := post σ xs 0) (B := fun u t => mAtW h ci N cl D cA cB ad (va_A (mWs h ci N cA cB ad σ) H.size) u t) hr hS (fun q _ hq => hF q hq) hF (fun u t H1 locs1 ht hvm hpo hB hz hk1 hS1 => ?_)
    obtain ⟨hP1, -, -⟩ := hB
    rw [ht] at hP1
    exact hk 0 u hpo H1 locs1 ls hP1 (mWs_D σ u hD) hS1 hl
theorem mS_caV {pc j : Nat} {lv : List (Option Value)} {st : List Value} {σ : mS} (hdg : decode cc pc = .ok (.invokevirtual j, 3)) (X : mCtx p s m args c h k ci N nL cl D cA cB A cc own C T ty0) (hca : ∀ j cs, mFind k.2.2 j = some cs → mOK h ci N cl C own d j cs) (hR : R = mRm d)
    (hm : mCaV k (mW p l e R s m args below meth c h ci N nL cl D cA cB ad A Qf) (pc + 3) lv st σ j) : mW p l e R s m args below meth c h ci N nL cl D cA cB ad A Qf (pc, lv, st, σ) := by
  obtain ⟨hx, hb, hml, hown, hts, hK, hc, hin, hty, hnm, hfl, hkd, hko, hA⟩ := id X
  unfold mCaV at hm
  split at hm
  · next np vd pre post hfi =>
    split at hm
    · next xs st' hxs =>
      obtain ⟨hst, hpre, hk⟩ := hm
      obtain ⟨y, cc', maxL, ret, d', hct, hd, hmx, w1, w2, w3, hdd, -, hv⟩ := hca j _ hfi
      obtain ⟨w4, w5⟩ := hv rfl
      obtain ⟨ys, e1, e2, e3⟩ := mArgs_spec _ _ _ _ _ hxs
      rw [List.append_nil] at e2
      subst e2
      intro H locs ls hP hD hS hl
      refine mS_aft (vd := vd) (Value.ref (ad 0) :: xs.map Value.int).toArray X hk hD hS hl ?_
      refine va_runV (Ts := gW) (own := own) (C := C) (index := j) (n := np) (bytes := cc') (maxL := maxL) (ret := ret) (cc := cc) (nL := nL) (b := ad 0) (As := xs.map Value.int) ⟨hx, hb, hml, hown, hts⟩ (hct l D cA cB ad H.size σ xs e1 hpre) ⟨callB_of np hts (gW_cons w1) rfl rfl rfl (hts _ w2) (hts _ w3) hdd (by subst hR; refine ⟨hd, ?_⟩; show 8 + (maxL + 11) + 35 * d' ≤ 35 * d; omega), hts _ w4, hts _ w5⟩ ⟨mBlind, va_recv hK hP (ci := ci) (q0 := 0) hc rfl, fun U hU hW => ⟨rfl, by rw [hU], by rw [hU]; exact hP, va_K.moved hW.alike hK, hD.weaken (fun _ _ _ _ => trivial)⟩⟩ rfl (by rw [List.length_map]; exact e1) hl.2.1 ?_ (lv_room (by rw [cv_room]; exact hst)) hdg ⟨Nat.zero_le _, Nat.zero_le _⟩
      show List.map (cv ad) st = _
      rw [e3, List.map_append, List.map_reverse, cv_ints]
      rfl
    · exact hm.elim
  · exact hm.elim
theorem mS_caS {pc j : Nat} {lv : List (Option Value)} {st : List Value} {σ : mS} (hdg : decode cc pc = .ok (.invokestatic j, 3)) (X : mCtx p s m args c h k ci N nL cl D cA cB A cc own C T ty0) (hca : ∀ j cs, mFind k.2.2 j = some cs → mOK h ci N cl C own d j cs) (hR : R = mRm d)
    (hm : mCaS k (mW p l e R s m args below meth c h ci N nL cl D cA cB ad A Qf) (pc + 3) lv st σ j) : mW p l e R s m args below meth c h ci N nL cl D cA cB ad A Qf (pc, lv, st, σ) := by
  obtain ⟨hx, hb, hml, hown, hts, hK, hc, hin, hty, hnm, hfl, hkd, hko, hA⟩ := id X
  unfold mCaS at hm
  split at hm
  · next np vd pre post hfi =>
    split at hm
    · next xs st' hxs =>
      obtain ⟨hst, hpre, hk⟩ := hm
      obtain ⟨y, cc', maxL, ret, d', hct, hd, hmx, w1, w2, w3, hdd, hv, -⟩ := hca j _ hfi
      have w4 := hv rfl
      obtain ⟨ys, e1, e2, e3⟩ := mArgs_spec _ _ _ _ _ hxs
      rw [List.append_nil] at e2
      subst e2
      intro H locs ls hP hD hS hl
      refine mS_aft (vd := vd) (xs.map Value.int).toArray X hk hD hS hl ?_
      refine va_runS (Ts := gW) (own := own) (index := j) (n := np) (bytes := cc') (maxL := maxL) (ret := ret) (cc := cc) (nL := nL) (As := xs.map Value.int) ⟨hx, hb, hml, hown, hts⟩ (hct l D cA cB ad H.size σ xs e1 hpre) ⟨callB_of np hts (gW_cons w1) rfl rfl rfl (hts _ w2) (hts _ w3) hdd (by subst hR; refine ⟨hd, ?_⟩; show 8 + (maxL + 11) + 35 * d' ≤ 35 * d; omega), hts _ w4⟩ ⟨mBlind, fun U hU hW => ⟨rfl, by rw [hU], by rw [hU]; exact hP, va_K.moved hW.alike hK, hD.weaken (fun _ _ _ _ => trivial)⟩⟩ rfl (by rw [List.length_map]; exact e1) hl.2.1 ?_ (lv_room (by rw [cv_room]; exact hst)) hdg ⟨Nat.zero_le _, Nat.zero_le _⟩
      show List.map (cv ad) st = _
      rw [e3, List.map_append, List.map_reverse, cv_ints]
    · exact hm.elim
  · exact hm.elim
set_option maxHeartbeats 4000000 in
/-- one step is sound -/
theorem mSound (X : mCtx p s m args c h k ci N nL cl D cA cB A cc own C T ty0) (hca : ∀ j cs, mFind k.2.2 j = some cs → mOK h ci N cl C own d j cs) (hR : R = mRm d)
    (hri : ∀ (v : Int32) (σ : mS) (H : Heap) (locs : List Loc) (ls : Array Slot) (pc : Nat), decode cc pc = .ok (.ireturn, 1) → (bl = 0 ∨ bl = 1 ∧ (v = 0 ∨ v = 1)) → Q v σ → va_P D cl (mWs h ci N cA cB ad σ) H → va_D A (mWs h ci N cA cB ad σ) → va_S A s.heap H locs → W p l e R s m args below meth c H locs 0 0 Qf (F0 m pc ls [.int v]))
    (hrv : ∀ (σ : mS) (H : Heap) (locs : List Loc) (ls : Array Slot) (pc : Nat), decode cc pc = .ok (.return_, 1) → bl = 2 → Q 0 σ → va_P D cl (mWs h ci N cA cB ad σ) H → va_D A (mWs h ci N cA cB ad σ) → va_S A s.heap H locs → W p l e R s m args below meth c H locs 0 0 Qf (F0 m pc ls [])) (S : mT)
    (hm : mStep h k cc bl Q (mW p l e R s m args below meth c h ci N nL cl D cA cB ad A Qf) S) : mW p l e R s m args below meth c h ci N nL cl D cA cB ad A Qf S := by
  obtain ⟨pc, lv, st, σ⟩ := S
  have hx := X.1
  have hb := X.2.1
  unfold mStep at hm
  split at hm
  case h_2 => exact hm.elim
  next i n hdg =>
  dsimp only at hm hdg
  unfold mIns at hm
  split at hm
  · next v => exact fun H locs ls hP hD hS hl => lv_iconst hx hb hdg rfl (hm H locs ls hP hD hS hl)
  · next v => exact fun H locs ls hP hD hS hl => lv_bipush hx hb hdg rfl (hm H locs ls hP hD hS hl)
  · next v => exact fun H locs ls hP hD hS hl => lv_sipush hx hb hdg rfl (hm H locs ls hP hD hS hl)
  · next j =>
    unfold mKon at hm
    split at hm
    · next v hv => exact fun H locs ls hP hD hS hl => lv_ldc hx hb X.2.2.2.1 (X.2.2.2.2.1 _ (X.2.2.2.2.2.2.2.2.2.2.2.2.1 j v hv)) hdg (hm H locs ls hP hD hS hl)
    · exact hm.elim
  · next j =>
    unfold mKon at hm
    split at hm
    · next v hv => exact fun H locs ls hP hD hS hl => lv_ldcw hx hb X.2.2.2.1 (X.2.2.2.2.1 _ (X.2.2.2.2.2.2.2.2.2.2.2.2.1 j v hv)) hdg (hm H locs ls hP hD hS hl)
    · exact hm.elim
  · next j => exact mS_ldI (fun x H locs ls h1 h2 => lv_iload_n hx hb hdg rfl h1 h2) hm
  · next j => exact mS_ldI (fun x H locs ls h1 h2 => lv_iload hx hb hdg h1 h2) hm
  · next j =>
    unfold mLdA at hm
    split at hm
    · next x hv => exact fun H locs ls hP hD hS hl => lv_aload_n hx hb hdg rfl (hl.2.2.2 _ _ hv) (hm H locs ls hP hD hS hl)
    · exact hm.elim
  · next j => exact mS_stI (fun x st H locs ls lv lv' h1 h2 h3 h4 => lv_istore_n hx hb hdg rfl h1 h2 h3 h4) hm
  · next j => exact mS_stI (fun x st H locs ls lv lv' h1 h2 h3 h4 => lv_istore hx hb hdg h1 h2 h3 h4) hm
  · next j v =>
    unfold mInc at hm
    split at hm
    · next x hv =>
      split at hm
      · next lv' hs =>
        intro H locs ls hP hD hS hl
        obtain ⟨q, hq⟩ := List.getElem?_of_mem (mPr_in (ad := ad) hv)
        exact lv_iinc hx hb hdg (mPr_has hl) hq rfl (by rw [← hl.1]; exact (mSet_spec _ _ _ _ hs).1) rfl (fun ls' hl' => hm H locs ls' hP hD hS (mLH_set hl hs hl'))
      · exact hm.elim
    · exact hm.elim
  · exact mS_bin (fun x y st H locs ls h1 => lv_iadd hx hb hdg h1) hm
  · exact mS_bin (fun x y st H locs ls h1 => lv_isub hx hb hdg h1) hm
  · exact mS_bin (fun x y st H locs ls h1 => lv_imul hx hb hdg h1) hm
  · exact mS_bin (fun x y st H locs ls h1 => lv_iand hx hb hdg h1) hm
  · exact mS_bin (fun x y st H locs ls h1 => lv_ior hx hb hdg h1) hm
  · exact mS_bin (fun x y st H locs ls h1 => lv_ixor hx hb hdg h1) hm
  · exact mS_bin (fun x y st H locs ls h1 => lv_ishl hx hb hdg h1) hm
  · exact mS_bin (fun x y st H locs ls h1 => lv_ishr hx hb hdg h1) hm
  · exact mS_bin (fun x y st H locs ls h1 => lv_iushr hx hb hdg rfl h1) hm
  · exact mS_div (fun x y st H locs ls h0 h1 => lv_idiv hx hb hdg h0 h1) hm
  · exact mS_div (fun x y st H locs ls h0 h1 => lv_irem hx hb hdg h0 h1) hm
  · exact mS_if1 (fun x st H locs ls tgt h0 h1 h2 => lv_if_eq hx hb hdg h0 h1 h2) hm
  · exact mS_ifN1 (fun x st H locs ls tgt h0 h1 h2 => lv_if_ne hx hb hdg h0 h1 h2) hm
  · exact mS_if1 (fun x st H locs ls tgt h0 h1 h2 => lv_if_lt hx hb hdg h0 h1 h2) hm
  · exact mS_if1 (fun x st H locs ls tgt h0 h1 h2 => lv_if_ge hx hb hdg h0 h1 h2) hm
  · exact mS_if1 (fun x st H locs ls tgt h0 h1 h2 => lv_if_gt hx hb hdg h0 h1 h2) hm
  · exact mS_if1 (fun x st H locs ls tgt h0 h1 h2 => lv_if_le hx hb hdg h0 h1 h2) hm
  · exact mS_if2 (fun x y st H locs ls tgt h0 h1 h2 => lv_icmp_eq hx hb hdg h0 h1 h2) hm
  · exact mS_ifN2 (fun x y st H locs ls tgt h0 h1 h2 => lv_icmp_ne hx hb hdg h0 h1 h2) hm
  · exact mS_if2 (fun x y st H locs ls tgt h0 h1 h2 => lv_icmp_lt hx hb hdg h0 h1 h2) hm
  · exact mS_if2 (fun x y st H locs ls tgt h0 h1 h2 => lv_icmp_ge hx hb hdg h0 h1 h2) hm
  · exact mS_if2 (fun x y st H locs ls tgt h0 h1 h2 => lv_icmp_gt hx hb hdg h0 h1 h2) hm
  · exact mS_if2 (fun x y st H locs ls tgt h0 h1 h2 => lv_icmp_le hx hb hdg h0 h1 h2) hm
  · exact mS_j hdg X hm
  · unfold mDup at hm
    split at hm
    · next v st' => exact fun H locs ls hP hD hS hl => lv_dup hx hb hdg (cv_cat _ _) (hm H locs ls hP hD hS hl)
    · exact hm.elim
  · unfold mDup2 at hm
    split at hm
    · next v w st' => exact fun H locs ls hP hD hS hl => lv_dup2_11 hx hb hdg (cv_cat _ _) (cv_cat _ _) (hm H locs ls hP hD hS hl)
    · exact hm.elim
  · exact mS_get hdg X hm
  · exact mS_put hdg X hm
  · exact mS_ldE hdg X hm
  · exact mS_stE hdg X hm
  · exact mS_ldR hdg X hm
  · exact mS_tsw hdg X hm
  · exact mS_lsw hdg X hm
  · exact mS_caV hdg X hca hR hm
  · exact mS_caS hdg X hca hR hm
  · unfold mRetI at hm
    split at hm
    · next v => exact fun H locs ls hP hD hS hl => hri v σ H locs ls pc hdg hm.1 hm.2 hP hD hS
    · exact hm.elim
  · unfold mRetV at hm
    split at hm
    · exact fun H locs ls hP hD hS hl => hrv σ H locs ls pc hdg hm.1 hm.2 hP hD hS
    · exact hm.elim
  · exact hm.elim
def mA0 (stt : Bool) (xs : List Int32) : List Value := (bif stt then [] else [.ref 0]) ++ xs.map Value.int
def mEn (stt : Bool) (maxL : Nat) (xs : List Int32) : List (Option Value) := (mA0 stt xs).map some ++ List.replicate (maxL - (mA0 stt xs).length) none
theorem mA0_cv (stt : Bool) (ad : Nat → Nat) (xs : List Int32) : (mA0 stt xs).map (cv ad) = mAv stt ad xs := by
  unfold mA0 mAv
  rw [List.map_append, cv_ints]
  cases stt <;> rfl
theorem mAt_en : ∀ (vs : List Value) (n i : Nat) (v : Value), mAt (vs.map some ++ List.replicate n none) i = some v → vs[i]? = some v
  | [], n, i, v, hi => by
    exfalso
    simp only [List.map_nil, List.nil_append] at hi
    induction n generalizing i with
    | zero => simp [mAt] at hi
    | succ n ih =>
      rw [List.replicate_succ] at hi
      cases i with
      | zero => simp [mAt] at hi
      | succ i => exact ih i (by simpa [mAt] using hi)
  | a :: vs, n, 0, v, hi => by simpa [mAt] using hi
  | a :: vs, n, i + 1, v, hi => by
    rw [List.getElem?_cons_succ]
    exact mAt_en vs n i v (by simpa [mAt] using hi)
theorem mSl (ad : Nat → Nat) : ∀ vs : List Value, lg_sl (vs.map (cv ad)) = vs.map (fun v => Slot.val (cv ad v))
  | [] => rfl
  | a :: vs => by
    have ih := mSl ad vs
    unfold lg_sl at ih ⊢
    rw [List.map_cons, List.flatMap_cons, ih, if_neg (by rw [cv_cat]; decide)]
    rfl
/-- a class's tables are as the claim's tables have them -/
def mTb (h : mH) (k : mK) (ci N : Nat) (cl : List vw_C) (own C : String) (T : u_T) (ty0 : Nat → FieldType) : Prop :=
  cl[ci]? = some (C, T, N) ∧ (∀ w ∈ u_ws C T N, w ∈ gW) ∧ (∀ a, a < N → parseFieldDescriptor (T a).2.2.1 = some (ty0 a)) ∧ (∀ a, a < N → ∀ b, b < N → a ≠ b → (T a).2.1 ≠ (T b).2.1) ∧
  (∀ j sl, k.1 j = some sl → sl < N ∧ (T sl).1 = C ∧ Cond.fieldLink own j C (T sl).2.1 (T sl).2.2.1 ∈ gW) ∧ (∀ sl, sl < N → h.1 sl = none → (T sl).2.2.2 = false ∧ parseFieldDescriptor (T sl).2.2.1 = some .int) ∧ (∀ j v, k.2.1 j = some v → Cond.constant own j v ∈ gW)
/-- X goes back over the steps of the machine, and over locals that nobody asks for -/
def mGo (h : mH) (k : mK) (cc : ByteArray) (bl : Nat) (Q : Int32 → mS → Prop) (X : mT → Prop) : Prop := (∀ S, mStep h k cc bl Q X S → X S) ∧ ∀ (pc : Nat) (lv lv' : List (Option Value)) (st : List Value) (σ : mS), mLe lv' lv → X (pc, lv', st, σ) → X (pc, lv, st, σ)
set_option maxHeartbeats 4000000 in
theorem mMeet {y : MethodName} {maxL : Nat} {ret : Option FieldType} {cs : mC} (hy : plainName y.cls = true) (hyo : y.cls = own) (hT : mTb h k ci N cl own C T ty0) (hca : ∀ j cs, mFind k.2.2 j = some cs → mOK h ci N cl C own d j cs)
    (hret : (bl = 0 ∧ cs.2.2.1 = false ∧ ret = some .int) ∨ (bl = 1 ∧ cs.2.2.1 = false ∧ ret = some .boolean) ∨ (bl = 2 ∧ cs.2.2.1 = true ∧ ret = none)) (hmx : cs.1 + (bif cs.2.1 then 0 else 1) ≤ maxL)
    (pure : ∀ (σ : mS) (xs : List Int32), xs.length = cs.1 → cs.2.2.2.1 σ xs → ∀ X : mT → Prop, mGo h k cc bl (cs.2.2.2.2 σ xs) X → X (0, mEn cs.2.1 maxL xs, [], σ)) : mCt h ci N cl y cc maxL ret d cs := by
  intro l D cA cB ad sz σ xs hlen hpre
  refine Met.ofW (cc := cc) (maxL := maxL) (ret := ret) hy rfl ?_
  intro p e s m args below meth c s₁ B hml hv
  obtain ⟨rfl, hsz, hP, hK, hD0⟩ := hv
  have hx := B.exec
  have hb := B.bytes
  have hr := B.returns
  have hts := atoms_spec (ws := Cond.code y cc maxL ret :: gW) B.pre
  have hown : s.vm.findClass own = some m.cls := hyo ▸ findClass_of_methodNamed B.named
  have hlocks := B.notSynchronized
  subst hsz
  have hD := hD0.self (sz := s.heap.size)
  have hS : va_S (va_A (mWs h ci N cA cB ad σ) s.heap.size) s.heap s.heap [] := va_S.rf
  have hA : ∀ q : Nat, s.heap.size ≤ q → va_A (mWs h ci N cA cB ad σ) s.heap.size q := fun q hq => Or.inr hq
  obtain ⟨t1, t2, t3, t4, t5, t6, t7⟩ := hT
  have X : mCtx p s m (mAv cs.2.1 ad xs).toArray c h k ci N maxL cl D cA cB (va_A (mWs h ci N cA cB ad σ) s.heap.size) cc own C T ty0 := ⟨hx, hb, hml, hown, fun w hw => hts w (List.mem_cons_of_mem _ hw), hK, t1, t2, t3, t4, t5, t6, t7, hA⟩
  have hgo : mGo h k cc bl (cs.2.2.2.2 σ xs) (mW p l e (headSpec (Cond.code y cc maxL ret :: gW) (mRm d)).room s m (mAv cs.2.1 ad xs).toArray below meth c h ci N maxL cl D cA cB ad (va_A (mWs h ci N cA cB ad σ) s.heap.size) (MQ below (mQc cs.2.2.1 (cs.2.2.2.2 σ xs) (fun u t => mAtW h ci N cl D cA cB ad (va_A (mWs h ci N cA cB ad σ) s.heap.size) u t) (va_A (mWs h ci N cA cB ad σ) s.heap.size)) (mAv cs.2.1 ad xs).toArray s 0 0 (va_A (mWs h ci N cA cB ad σ) s.heap.size))) := by
    refine ⟨fun S hS => mSound X hca rfl ?_ ?_ S hS, fun pc lv lv' st σ hle hw => mW_le hle hw⟩
    · intro v u H locs ls pc hdg hv hq hP1 hD1 hS1
      rcases hret with ⟨e1, e2, e3⟩ | ⟨e1, e2, e3⟩ | ⟨e1, e2, e3⟩
      · refine W.zret (ty := .int) hx hb (hr.trans e3) rfl (fun t ht hW => ?_) hS1.2.2 hdg
        rw [e2]
        exact ⟨⟨v, u, rfl, hq, by rw [ht]; exact hP1, va_K.moved hW.alike hK, hD1⟩, hS1.F ht⟩
      · refine W.zret (ty := .boolean) hx hb (hr.trans e3) ?_ (fun t ht hW => ?_) hS1.2.2 hdg
        · rcases hv with hv | hv
          · omega
          · rcases hv.2 with rfl | rfl <;> rfl
        · rw [e2]
          exact ⟨⟨v, u, rfl, hq, by rw [ht]; exact hP1, va_K.moved hW.alike hK, hD1⟩, hS1.F ht⟩
      · exfalso
        rcases hv with hv | hv <;> omega
    · intro u H locs ls pc hdg hv hq hP1 hD1 hS1
      rcases hret with ⟨e1, e2, e3⟩ | ⟨e1, e2, e3⟩ | ⟨e1, e2, e3⟩
      · omega
      · omega
      · refine W.vret hx hb (hr.trans e3) (fun t ht hW => ?_) hS1.2.2 hdg
        rw [e2]
        exact ⟨⟨u, rfl, hq, by rw [ht]; exact hP1, va_K.moved hW.alike hK, hD1⟩, hS1.F ht⟩
  have hfin := pure σ xs hlen hpre _ hgo
  have hlA : (mA0 cs.2.1 xs).length ≤ maxL := by
    unfold mA0
    rw [List.length_append, List.length_map, hlen]
    cases hq : cs.2.1 <;> rw [hq] at hmx <;> simp at hmx ⊢ <;> omega
  have hl := lv_entry (mAv cs.2.1 ad xs) (n := maxL) (by rw [← mA0_cv, mSl, List.length_map]; exact hlA)
  have hls : mLH ad ((lg_sl (mAv cs.2.1 ad xs) ++ List.replicate (maxL - (lg_sl (mAv cs.2.1 ad xs)).length) Slot.unset).toArray) maxL (mEn cs.2.1 maxL xs) := by
    refine ⟨?_, hl.1, hl.2.1, fun i v hi => ?_⟩
    · unfold mEn
      rw [List.length_append, List.length_map, List.length_replicate]
      omega
    · have hv := mAt_en _ _ i v hi
      rw [← mA0_cv, mSl]
      have hil : i < (mA0 cs.2.1 xs).length := (List.getElem?_eq_some_iff.mp hv).1
      rw [List.getElem?_toArray, List.getElem?_append_left (by rw [List.length_map]; exact hil), List.getElem?_map, hv]
      rfl
  rw [lg_entry_eq]
  exact hfin s.heap [] _ hP hD hS hls
end MMEET
