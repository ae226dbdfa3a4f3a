/-! THE MACHINE IS SOUND: what mStep asks for, the JVM's machine does (the kit's rows, once for all) -/
def gW : List Cond := lw_tbl.filter goodWord
theorem gW_good : GoodIn gW gW := fun _ h => ⟨h, good_of_word (List.mem_filter.mp h).2⟩
def mRm (d : Nat) : Room := { frames := d, cells := 0, slots := 0, locals := 35 * d }
def cv (ad : Nat → Nat) : Value → Value
  | .int x => .int x
  | .ref k => .ref (ad k)
  | _ => .int 0
theorem cv_cat (ad : Nat → Nat) (v : Value) : (cv ad v).category = 1 := by cases v <;> rfl
def mLH (ad : Nat → Nat) (ls : Array Slot) (nL : Nat) (lv : List (Option Value)) : Prop := lv.length = nL ∧ ls.size = nL ∧ lv_wf ls ∧ ∀ i v, mAt lv i = some v → ls[i]? = some (.val (cv ad v))
theorem mAt_lt : ∀ (lv : List (Option Value)) (i : Nat) (v : Value), mAt lv i = some v → i < lv.length
  | [], _, _, h => by simp [mAt] at h
  | _ :: _, 0, _, _ => by simp
  | a :: l, i + 1, v, h => by
    have := mAt_lt l i v (by simpa [mAt] using h)
    simp only [List.length_cons]; omega
theorem mSet_spec : ∀ (lv : List (Option Value)) (j : Nat) (v : Value) (lv' : List (Option Value)), mSet lv j v = some lv' → j < lv.length ∧ lv'.length = lv.length ∧ ∀ i, mAt lv' i = if i = j then some v else mAt lv i
  | [], _, _, _, h => by simp [mSet] at h
  | a :: l, 0, v, lv', h => by
    simp only [mSet, Option.some.injEq] at h
    subst h
    refine ⟨by simp, by simp, fun i => ?_⟩
    cases i <;> simp [mAt]
  | a :: l, j + 1, v, lv', h => by
    simp only [mSet, Option.map_eq_some_iff] at h
    obtain ⟨q, h1, rfl⟩ := h
    obtain ⟨g1, g2, g3⟩ := mSet_spec l j v q h1
    refine ⟨by simp only [List.length_cons]; omega, by simp [g2], fun i => ?_⟩
    cases i with
    | zero => simp [mAt]
    | succ i => simp [mAt, g3 i]
def mPr (ad : Nat → Nat) (lv : List (Option Value)) : List (Nat × Value) := (List.range lv.length).filterMap (fun i => (mAt lv i).map (fun v => (i, cv ad v)))
theorem mPr_in {ad : Nat → Nat} {lv : List (Option Value)} {i : Nat} {v : Value} (h : mAt lv i = some v) : (i, cv ad v) ∈ mPr ad lv :=
  List.mem_filterMap.mpr ⟨i, List.mem_range.mpr (mAt_lt lv i v h), by rw [h]; rfl⟩
theorem mPr_has {ad : Nat → Nat} {ls : Array Slot} {nL : Nat} {lv : List (Option Value)} (h : mLH ad ls nL lv) : lv_has ls nL (mPr ad lv) := by
  obtain ⟨h1, h2, h3, h4⟩ := h
  refine ⟨h2, h3, fun q hq => ?_⟩
  obtain ⟨i, -, hi⟩ := List.mem_filterMap.mp hq
  obtain ⟨v, hv, rfl⟩ := Option.map_eq_some_iff.mp hi
  exact h4 i v hv
theorem mLH_set {ad : Nat → Nat} {ls : Array Slot} {nL j : Nat} {lv lv' : List (Option Value)} {v : Value} (h0 : mLH ad ls nL lv) (hs : mSet lv j v = some lv') {ls' : Array Slot} (h : lv_has ls' nL ((j, cv ad v) :: (mPr ad lv).filter (fun q => !(q.1 == j) && !(q.1 + 1 == j && q.2.category == 2)))) : mLH ad ls' nL lv' := by
  obtain ⟨g1, g2, g3⟩ := mSet_spec lv j v lv' hs
  obtain ⟨a1, a2, a3⟩ := h
  refine ⟨g2.trans h0.1, a1, a2, fun i w hi => ?_⟩
  rw [g3 i] at hi
  by_cases e : i = j
  · subst e
    rw [if_pos rfl] at hi
    cases hi
    exact a3 _ List.mem_cons_self
  · rw [if_neg e] at hi
    refine a3 (i, cv ad w) (List.mem_cons_of_mem _ (List.mem_filter.mpr ⟨mPr_in hi, ?_⟩))
    simp [e, cv_cat]
def mLe : List (Option Value) → List (Option Value) → Prop
  | [], [] => True
  | a :: l, b :: l' => (a = none ∨ a = b) ∧ mLe l l'
  | _, _ => False
theorem mLe_spec : ∀ (l' l : List (Option Value)), mLe l' l → l'.length = l.length ∧ ∀ i v, mAt l' i = some v → mAt l i = some v
  | [], [], _ => ⟨rfl, fun _ _ h => h⟩
  | a :: l', b :: l, h => by
    obtain ⟨h1, h2⟩ := h
    obtain ⟨g1, g2⟩ := mLe_spec l' l h2
    refine ⟨by simp [g1], fun i v hi => ?_⟩
    cases i with
    | zero =>
      simp only [mAt] at hi ⊢
      rcases h1 with h1 | h1
      · rw [h1] at hi; cases hi
      · rw [← h1]; exact hi
    | succ i => exact g2 i v (by simpa [mAt] using hi)
  | [], _ :: _, h => h.elim
  | _ :: _, [], h => h.elim
theorem mLH_le {ad : Nat → Nat} {ls : Array Slot} {nL : Nat} {lv lv' : List (Option Value)} (h : mLH ad ls nL lv) (hl : mLe lv' lv) : mLH ad ls nL lv' := by
  obtain ⟨g1, g2⟩ := mLe_spec lv' lv hl
  exact ⟨g1.trans h.1, h.2.1, h.2.2.1, fun i v hi => h.2.2.2 i v (g2 i v hi)⟩
/-- the world of a store -/
def mFc (h : mH) (ad : Nat → Nat) (σ : mS) (s : Nat) : Value := cv ad (mFv h σ s)
def mAe (h : mH) (cA cB : ClassId) (ad : Nat → Nat) (σ : mS) (a : Nat) : va_E := match h.2.2.2 a with
  | some b => .inl (cB, h.2.2.1 a, .inr (.inr (.inr (.inr (fun i => some (ad (b + i)))))))
  | none => .inl (cA, h.2.2.1 a, .inl (σ.2 a))
def mWs (h : mH) (ci N : Nat) (cA cB : ClassId) (ad : Nat → Nat) (σ : mS) : va_W := (ad 0, .inr (ci, (List.range N).map (mFc h ad σ))) :: (List.range h.2.1).map (fun a => (ad (a + 1), mAe h cA cB ad σ (a + 1)))
theorem mWs_arr {h : mH} {ci N : Nat} {cA cB : ClassId} {ad : Nat → Nat} {σ : mS} {a : Nat} (ha : 1 ≤ a ∧ a ≤ h.2.1) : (mWs h ci N cA cB ad σ)[a]? = some (ad a, mAe h cA cB ad σ a) := by
  obtain ⟨b, rfl⟩ : ∃ b, a = b + 1 := ⟨a - 1, by omega⟩
  have hb : b < h.2.1 := by omega
  simp [mWs, hb]
theorem mWs_out {h : mH} {ci N : Nat} {cA cB : ClassId} {ad : Nat → Nat} {σ : mS} {a : Nat} (ha : h.2.1 < a) : (mWs h ci N cA cB ad σ)[a]? = none := by
  obtain ⟨b, rfl⟩ : ∃ b, a = b + 1 := ⟨a - 1, by omega⟩
  have hb : h.2.1 ≤ b := by omega
  simp [mWs, hb]
theorem mWs_at {h : mH} {ci N : Nat} {cA cB : ClassId} {ad : Nat → Nat} (σ σ' : mS) {k q : Nat} : (∃ e, (mWs h ci N cA cB ad σ)[k]? = some (q, e)) ↔ ∃ e, (mWs h ci N cA cB ad σ')[k]? = some (q, e) := by
  cases k with
  | zero => simp [mWs]
  | succ k =>
    by_cases hk : k + 1 ≤ h.2.1
    · rw [mWs_arr ⟨by omega, hk⟩, mWs_arr ⟨by omega, hk⟩]
      simp
    · rw [mWs_out (by omega), mWs_out (by omega)]
theorem mWs_A {h : mH} {ci N : Nat} {cA cB : ClassId} {ad : Nat → Nat} (σ σ' : mS) {sz q : Nat} (hq : va_A (mWs h ci N cA cB ad σ) sz q) : va_A (mWs h ci N cA cB ad σ') sz q := by
  rcases hq with ⟨k, e, hk⟩ | hq
  · obtain ⟨e', he⟩ := (mWs_at σ σ').mp ⟨e, hk⟩
    exact Or.inl ⟨k, e', he⟩
  · exact Or.inr hq
theorem mWs_D {h : mH} {ci N : Nat} {cA cB : ClassId} {ad : Nat → Nat} (σ σ' : mS) {A : Nat → Prop} (hD : va_D A (mWs h ci N cA cB ad σ)) : va_D A (mWs h ci N cA cB ad σ') := by
  refine ⟨fun i j x y hi hj e => ?_, fun k q hk => ?_⟩
  · obtain ⟨e1, h1⟩ := (mWs_at σ' σ).mp ⟨x.2, hi⟩
    obtain ⟨e2, h2⟩ := (mWs_at σ' σ).mp ⟨y.2, hj⟩
    exact hD.1 i j _ _ h1 h2 e
  · obtain ⟨e1, h1⟩ := (mWs_at σ' σ).mp ⟨q.2, hk⟩
    exact hD.2 k (q.1, e1) h1
theorem mWs_put {h : mH} {ci N : Nat} {cA cB : ClassId} {ad : Nat → Nat} {σ : mS} {s : Nat} {x : Int32} (hs : s < N) (hk : h.1 s = none) : (mWs h ci N cA cB ad σ).set 0 (ad 0, .inr (ci, ((List.range N).map (mFc h ad σ)).set s (.int x))) = mWs h ci N cA cB ad (upd σ.1 s x, σ.2) := by
  have e1 : ((List.range N).map (mFc h ad σ)).set s (.int x) = (List.range N).map (mFc h ad (upd σ.1 s x, σ.2)) := by
    apply List.ext_getElem?
    intro j
    by_cases hj : j = s
    · subst hj
      rw [List.getElem?_set_self (by simpa using hs)]
      simp [hs, mFc, mFv, hk, cv, upd]
    · rw [List.getElem?_set_ne (Ne.symm hj)]
      by_cases hN : j < N
      · simp [hN, mFc, mFv, cv, upd, hj]
      · simp [hN]
  unfold mWs
  rw [List.set_cons_zero, e1]
  rfl
theorem mAe_ne {h : mH} {cA cB : ClassId} {ad : Nat → Nat} {σ : mS} {a b i : Nat} {x : Int32} (hb : b ≠ a) : mAe h cA cB ad (σ.1, up2 σ.2 a i x) b = mAe h cA cB ad σ b := by
  unfold mAe
  simp [up2, hb]
theorem mWs_up {h : mH} {ci N : Nat} {cA cB : ClassId} {ad : Nat → Nat} {σ : mS} {a i : Nat} {x : Int32} (ha : mIsA h a) : (mWs h ci N cA cB ad σ).set a (ad a, .inl (cA, h.2.2.1 a, .inl (upd (σ.2 a) i x))) = mWs h ci N cA cB ad (σ.1, up2 σ.2 a i x) := by
  obtain ⟨⟨h1, h2⟩, h3⟩ := ha
  apply List.ext_getElem?
  intro j
  by_cases hj : j = a
  · subst hj
    rw [List.getElem?_set_self (by simp [mWs]; omega), mWs_arr ⟨h1, h2⟩]
    simp [mAe, h3, up2]
  · rw [List.getElem?_set_ne (Ne.symm hj)]
    cases j with
    | zero =>
      simp only [mWs, List.getElem?_cons_zero, Option.some.injEq, Prod.mk.injEq, true_and, Sum.inr.injEq]
      rfl
    | succ j =>
      by_cases hN : j + 1 ≤ h.2.1
      · rw [mWs_arr ⟨by omega, hN⟩, mWs_arr ⟨by omega, hN⟩, mAe_ne hj]
      · rw [mWs_out (by omega), mWs_out (by omega)]
/-- a store stands in a state's heap -/
def mAtW (h : mH) (ci N : Nat) (cl : List vw_C) (D : va_G) (cA cB : ClassId) (ad : Nat → Nat) (A : Nat → Prop) (σ : mS) (U : State) : Prop := va_P D cl (mWs h ci N cA cB ad σ) U.heap ∧ va_K D cl [(cA, .int), (cB, .array .int)] U ∧ va_D A (mWs h ci N cA cB ad σ)
def mAv (stt : Bool) (ad : Nat → Nat) (xs : List Int32) : List Value := (bif stt then [] else [.ref (ad 0)]) ++ xs.map Value.int
def mQc (vd : Bool) (post : Int32 → mS → Prop) (B : mS → State → Prop) (A : Nat → Prop) : Array Value → State → Outcome → State → Prop := bif vd then va_Qv (post 0) B A else va_Qi post B A
/-- a method's contract: from any store that 'pre' allows it returns, 'post' holds, nothing else is written, nothing is made -/
def mCt (h : mH) (ci N : Nat) (cl : List vw_C) (y : MethodName) (cc : ByteArray) (maxL : Nat) (ret : Option FieldType) (d : Nat) (cs : mC) : Prop :=
  ∀ (l : Launch) (D : va_G) (cA cB : ClassId) (ad : Nat → Nat) (sz : Nat) (σ : mS) (xs : List Int32), xs.length = cs.1 → cs.2.2.2.1 σ xs →
    Met l y (Cond.code y cc maxL ret :: gW) (mRm d) (va_Pc (mAv cs.2.1 ad xs) (fun U => U.heap.size = sz ∧ mAtW h ci N cl D cA cB ad (fun _ => True) σ U))
      (mQc cs.2.2.1 (cs.2.2.2.2 σ xs) (fun u t => mAtW h ci N cl D cA cB ad (va_A (mWs h ci N cA cB ad σ) sz) u t) (va_A (mWs h ci N cA cB ad σ) sz)) 0 0 (va_A (mWs h ci N cA cB ad σ) sz)
/-- a call of pool index j in a method of class own is to a method with this contract, whose depth is under d -/
def mOK (h : mH) (ci N : Nat) (cl : List vw_C) (C own : String) (d j : Nat) (cs : mC) : Prop := ∃ (y : MethodName) (cc : ByteArray) (maxL : Nat) (ret : Option FieldType) (d' : Nat), mCt h ci N cl y cc maxL ret d' cs ∧ d' + 1 ≤ d ∧ maxL ≤ 16 ∧ Cond.code y cc maxL ret ∈ gW ∧ Cond.initialized y.cls ∈ gW ∧ Cond.methodLink own j y ∈ gW ∧ (y.cls ≠ "java/lang/invoke/MethodHandle" ∧ y.cls ≠ "java/lang/invoke/VarHandle" ∧ (parseMethodDescriptor y.desc).map (fun d => d.parameters.length) = some cs.1) ∧ (cs.2.1 = true → Cond.static y ∈ gW) ∧ (cs.2.1 = false → Cond.instanceMethod y ∈ gW ∧ Cond.selects C y y ∈ gW)
theorem mArgs_spec : ∀ (n : Nat) (st : List Value) (acc xs : List Int32) (st' : List Value), mArgs n st acc = some (xs, st') → ∃ ys : List Int32, ys.length = n ∧ xs = ys ++ acc ∧ st = (ys.map Value.int).reverse ++ st'
  | 0, st, acc, xs, st', h => by
    simp only [mArgs, Option.some.injEq, Prod.mk.injEq] at h
    exact ⟨[], rfl, by simp [h.1], by simp [h.2]⟩
  | n + 1, .int x :: st, acc, xs, st', h => by
    simp only [mArgs] at h
    obtain ⟨ys, h1, h2, h3⟩ := mArgs_spec n st (x :: acc) xs st' h
    refine ⟨ys ++ [x], by simp [h1], by simp [h2], ?_⟩
    rw [h3]
    simp
  | n + 1, [], _, _, _, h => by simp [mArgs] at h
  | n + 1, .long _ :: _, _, _, _, h => by simp [mArgs] at h
  | n + 1, .float _ :: _, _, _, _, h => by simp [mArgs] at h
  | n + 1, .double _ :: _, _, _, _, h => by simp [mArgs] at h
  | n + 1, .null :: _, _, _, _, h => by simp [mArgs] at h
  | n + 1, .ref _ :: _, _, _, _, h => by simp [mArgs] at h
  | n + 1, .retAddr _ :: _, _, _, _, h => by simp [mArgs] at h
theorem cv_ints (ad : Nat → Nat) (ys : List Int32) : (ys.map Value.int).map (cv ad) = ys.map Value.int := by
  rw [List.map_map]
  rfl
theorem cv_room (ad : Nat → Nat) (st : List Value) : ((st.map (cv ad)).map fun v => v.category).sum = st.length := by
  induction st with
  | nil => rfl
  | cons a l ih => simp only [List.map_cons, List.sum_cons, cv_cat, ih, List.length_cons]; omega
