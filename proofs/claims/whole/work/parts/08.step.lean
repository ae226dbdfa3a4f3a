section MSOUND
variable {p : Program} {l : Launch} {e : Env} {R : Room} {s : State} {m : MethodId} {args : Array Value} {below : List Frame} {meth : Method} {c : Code}
variable {h : mH} {k : mK} {ci N nL : Nat} {cl : List vw_C} {D : va_G} {cA cB : ClassId} {ad : Nat → Nat} {A : Nat → Prop} {Qf : State → Prop} {cc : ByteArray} {own C : String} {T : u_T} {ty0 : Nat → FieldType} {bl : Nat} {Q : Int32 → mS → Prop}
/-- the JVM's machine, at a state of the abstract one, comes to Qf -/
def mW (p : Program) (l : Launch) (e : Env) (R : Room) (s : State) (m : MethodId) (args : Array Value) (below : List Frame) (meth : Method) (c : Code) (h : mH) (ci N nL : Nat) (cl : List vw_C) (D : va_G) (cA cB : ClassId) (ad : Nat → Nat) (A : Nat → Prop) (Qf : State → Prop) (S : mT) : Prop :=
  ∀ (H : Heap) (locs : List Loc) (ls : Array Slot), va_P D cl (mWs h ci N cA cB ad S.2.2.2) H → va_D A (mWs h ci N cA cB ad S.2.2.2) → va_S A s.heap H locs → mLH ad ls nL S.2.1 → W p l e R s m args below meth c H locs 0 0 Qf (F0 m S.1 ls (S.2.2.1.map (cv ad)))
theorem mW_le {pc : Nat} {lv lv' : List (Option Value)} {st : List Value} {σ : mS} (hl : mLe lv' lv) (hw : mW p l e R s m args below meth c h ci N nL cl D cA cB ad A Qf (pc, lv', st, σ)) : mW p l e R s m args below meth c h ci N nL cl D cA cB ad A Qf (pc, lv, st, σ) :=
  fun H locs ls hP hD hS hl' => hw H locs ls hP hD hS (mLH_le hl' hl)
/-- what a method's body knows -/
def mCtx (p : Program) (s : State) (m : MethodId) (args : Array Value) (c : Code) (h : mH) (k : mK) (ci N nL : Nat) (cl : List vw_C) (D : va_G) (cA cB : ClassId) (A : Nat → Prop) (cc : ByteArray) (own C : String) (T : u_T) (ty0 : Nat → FieldType) : Prop :=
  p.tables.exec = Jvm.exec ∧ c.code = cc ∧ c.maxLocals = nL ∧ s.vm.findClass own = some m.cls ∧ (∀ w ∈ gW, w.before args s = true) ∧ va_K D cl [(cA, .int), (cB, .array .int)] s ∧ cl[ci]? = some (C, T, N) ∧ (∀ w ∈ u_ws C T N, w ∈ gW) ∧ (∀ a, a < N → parseFieldDescriptor (T a).2.2.1 = some (ty0 a)) ∧ (∀ a, a < N → ∀ b, b < N → a ≠ b → (T a).2.1 ≠ (T b).2.1) ∧
  (∀ j sl, k.1 j = some sl → sl < N ∧ (T sl).1 = C ∧ Cond.fieldLink own j C (T sl).2.1 (T sl).2.2.1 ∈ gW) ∧ (∀ sl, sl < N → h.1 sl = none → (T sl).2.2.2 = false ∧ parseFieldDescriptor (T sl).2.2.1 = some .int) ∧ (∀ j v, k.2.1 j = some v → Cond.constant own j v ∈ gW) ∧ (∀ q : Nat, s.heap.size ≤ q → A q)
theorem mTg_eq {pc : Nat} {off : Int} (h : 0 ≤ (pc : Int) + off) : (pc : Int) + off = (mTg pc off : Int) := by
  unfold mTg
  rw [Int.toNat_of_nonneg h]
theorem mS_ldI {pc n j : Nat} {lv : List (Option Value)} {st : List Value} {σ : mS} (hdg : ∀ x (H : Heap) (locs : List Loc) (ls : Array Slot), ls[j]? = some (.val (.int x)) → W p l e R s m args below meth c H locs 0 0 Qf (F0 m n ls (.int x :: st.map (cv ad))) → W p l e R s m args below meth c H locs 0 0 Qf (F0 m pc ls (st.map (cv ad))))
    (hm : mLdI (mW p l e R s m args below meth c h ci N nL cl D cA cB ad A Qf) n lv st σ j) : mW p l e R s m args below meth c h ci N nL cl D cA cB ad A Qf (pc, lv, st, σ) := by
  unfold mLdI at hm
  split at hm
  · next x hx =>
    intro H locs ls hP hD hS hl
    exact hdg x H locs ls (hl.2.2.2 j _ hx) (hm H locs ls hP hD hS hl)
  · exact hm.elim
theorem mS_stI {pc n j : Nat} {lv : List (Option Value)} {st : List Value} {σ : mS} (hdg : ∀ (x : Int32) (st : List Value) (H : Heap) (locs : List Loc) (ls : Array Slot) (lv lv' : List (Nat × Value)), lv_has ls nL lv → j < nL → (j, Value.int x) :: lv.filter (fun q => !(q.1 == j) && !(q.1 + 1 == j && q.2.category == 2)) = lv' → (∀ ls' : Array Slot, lv_has ls' nL lv' → W p l e R s m args below meth c H locs 0 0 Qf (F0 m n ls' st)) → W p l e R s m args below meth c H locs 0 0 Qf (F0 m pc ls (.int x :: st)))
    (hm : mStI (mW p l e R s m args below meth c h ci N nL cl D cA cB ad A Qf) n lv st σ j) : mW p l e R s m args below meth c h ci N nL cl D cA cB ad A Qf (pc, lv, st, σ) := by
  unfold mStI at hm
  split at hm
  · next x st' =>
    split at hm
    · next lv' hs =>
      intro H locs ls hP hD hS hl
      have hj := (mSet_spec lv j _ lv' hs).1
      exact hdg x (st'.map (cv ad)) H locs ls (mPr ad lv) _ (mPr_has hl) (by rw [← hl.1]; exact hj) rfl (fun ls' hl' => hm H locs ls' hP hD hS (mLH_set hl hs hl'))
    · exact hm.elim
  · exact hm.elim
theorem mS_bin {pc n : Nat} {lv : List (Option Value)} {st : List Value} {σ : mS} {f : Int32 → Int32 → Int32} (hdg : ∀ (x y : Int32) (st : List Value) (H : Heap) (locs : List Loc) (ls : Array Slot), W p l e R s m args below meth c H locs 0 0 Qf (F0 m n ls (.int (f x y) :: st)) → W p l e R s m args below meth c H locs 0 0 Qf (F0 m pc ls (.int y :: .int x :: st)))
    (hm : mBin (mW p l e R s m args below meth c h ci N nL cl D cA cB ad A Qf) n lv st σ f) : mW p l e R s m args below meth c h ci N nL cl D cA cB ad A Qf (pc, lv, st, σ) := by
  unfold mBin at hm
  split at hm
  · next y x st' =>
    intro H locs ls hP hD hS hl
    exact hdg x y (st'.map (cv ad)) H locs ls (hm H locs ls hP hD hS hl)
  · exact hm.elim
theorem mS_div {pc n : Nat} {lv : List (Option Value)} {st : List Value} {σ : mS} {f : Int32 → Int32 → Int32} (hdg : ∀ (x y : Int32) (st : List Value) (H : Heap) (locs : List Loc) (ls : Array Slot), ¬ y = 0 → W p l e R s m args below meth c H locs 0 0 Qf (F0 m n ls (.int (f x y) :: st)) → W p l e R s m args below meth c H locs 0 0 Qf (F0 m pc ls (.int y :: .int x :: st)))
    (hm : mDiv (mW p l e R s m args below meth c h ci N nL cl D cA cB ad A Qf) n lv st σ f) : mW p l e R s m args below meth c h ci N nL cl D cA cB ad A Qf (pc, lv, st, σ) := by
  unfold mDiv at hm
  split at hm
  · next y x st' =>
    intro H locs ls hP hD hS hl
    exact hdg x y (st'.map (cv ad)) H locs ls hm.1 (hm.2 H locs ls hP hD hS hl)
  · exact hm.elim
theorem mS_if1 {pc : Nat} {off : Int} {lv : List (Option Value)} {st : List Value} {σ : mS} {f : Int32 → Prop} (hdg : ∀ (x : Int32) (st : List Value) (H : Heap) (locs : List Loc) (ls : Array Slot) (tgt : Nat), (pc : Int) + off = (tgt : Int) → (f x → W p l e R s m args below meth c H locs 0 0 Qf (F0 m tgt ls st)) → (¬ f x → W p l e R s m args below meth c H locs 0 0 Qf (F0 m (pc + 3) ls st)) → W p l e R s m args below meth c H locs 0 0 Qf (F0 m pc ls (.int x :: st)))
    (hm : mIf1 (mW p l e R s m args below meth c h ci N nL cl D cA cB ad A Qf) pc off lv st σ f) : mW p l e R s m args below meth c h ci N nL cl D cA cB ad A Qf (pc, lv, st, σ) := by
  unfold mIf1 at hm
  split at hm
  · next x st' =>
    intro H locs ls hP hD hS hl
    refine hdg x (st'.map (cv ad)) H locs ls (mTg pc off) (mTg_eq hm.1) (fun q => hm.2.1 q H locs ls hP hD hS hl) (fun q => hm.2.2 q H locs ls hP hD hS hl)
  · exact hm.elim
theorem mS_if2 {pc : Nat} {off : Int} {lv : List (Option Value)} {st : List Value} {σ : mS} {f : Int32 → Int32 → Prop} (hdg : ∀ (x y : Int32) (st : List Value) (H : Heap) (locs : List Loc) (ls : Array Slot) (tgt : Nat), (pc : Int) + off = (tgt : Int) → (f x y → W p l e R s m args below meth c H locs 0 0 Qf (F0 m tgt ls st)) → (¬ f x y → W p l e R s m args below meth c H locs 0 0 Qf (F0 m (pc + 3) ls st)) → W p l e R s m args below meth c H locs 0 0 Qf (F0 m pc ls (.int y :: .int x :: st)))
    (hm : mIf2 (mW p l e R s m args below meth c h ci N nL cl D cA cB ad A Qf) pc off lv st σ f) : mW p l e R s m args below meth c h ci N nL cl D cA cB ad A Qf (pc, lv, st, σ) := by
  unfold mIf2 at hm
  split at hm
  · next y x st' =>
    intro H locs ls hP hD hS hl
    refine hdg x y (st'.map (cv ad)) H locs ls (mTg pc off) (mTg_eq hm.1) (fun q => hm.2.1 q H locs ls hP hD hS hl) (fun q => hm.2.2 q H locs ls hP hD hS hl)
  · exact hm.elim
theorem mS_ifN1 {pc : Nat} {off : Int} {lv : List (Option Value)} {st : List Value} {σ : mS} (hdg : ∀ (x : Int32) (st : List Value) (H : Heap) (locs : List Loc) (ls : Array Slot) (tgt : Nat), (pc : Int) + off = (tgt : Int) → (¬ x = 0 → W p l e R s m args below meth c H locs 0 0 Qf (F0 m tgt ls st)) → (x = 0 → W p l e R s m args below meth c H locs 0 0 Qf (F0 m (pc + 3) ls st)) → W p l e R s m args below meth c H locs 0 0 Qf (F0 m pc ls (.int x :: st)))
    (hm : mIfN1 (mW p l e R s m args below meth c h ci N nL cl D cA cB ad A Qf) pc off lv st σ) : mW p l e R s m args below meth c h ci N nL cl D cA cB ad A Qf (pc, lv, st, σ) := by
  unfold mIfN1 at hm
  split at hm
  · next x st' =>
    intro H locs ls hP hD hS hl
    exact hdg x (st'.map (cv ad)) H locs ls (mTg pc off) (mTg_eq hm.1) (fun q => hm.2.2 q H locs ls hP hD hS hl) (fun q => hm.2.1 q H locs ls hP hD hS hl)
  · exact hm.elim
theorem mS_ifN2 {pc : Nat} {off : Int} {lv : List (Option Value)} {st : List Value} {σ : mS} (hdg : ∀ (x y : Int32) (st : List Value) (H : Heap) (locs : List Loc) (ls : Array Slot) (tgt : Nat), (pc : Int) + off = (tgt : Int) → (¬ x = y → W p l e R s m args below meth c H locs 0 0 Qf (F0 m tgt ls st)) → (x = y → W p l e R s m args below meth c H locs 0 0 Qf (F0 m (pc + 3) ls st)) → W p l e R s m args below meth c H locs 0 0 Qf (F0 m pc ls (.int y :: .int x :: st)))
    (hm : mIfN2 (mW p l e R s m args below meth c h ci N nL cl D cA cB ad A Qf) pc off lv st σ) : mW p l e R s m args below meth c h ci N nL cl D cA cB ad A Qf (pc, lv, st, σ) := by
  unfold mIfN2 at hm
  split at hm
  · next y x st' =>
    intro H locs ls hP hD hS hl
    exact hdg x y (st'.map (cv ad)) H locs ls (mTg pc off) (mTg_eq hm.1) (fun q => hm.2.2 q H locs ls hP hD hS hl) (fun q => hm.2.1 q H locs ls hP hD hS hl)
  · exact hm.elim
theorem mS_j {pc : Nat} {off : Int} {lv : List (Option Value)} {st : List Value} {σ : mS} (hdg : decode cc pc = .ok (.goto off, 3)) (X : mCtx p s m args c h k ci N nL cl D cA cB A cc own C T ty0)
    (hm : mJ (mW p l e R s m args below meth c h ci N nL cl D cA cB ad A Qf) pc off lv st σ) : mW p l e R s m args below meth c h ci N nL cl D cA cB ad A Qf (pc, lv, st, σ) := by
  intro H locs ls hP hD hS hl
  exact lv_goto X.1 X.2.1 hdg (mTg_eq hm.1) (hm.2 H locs ls hP hD hS hl)
theorem mS_get {pc j : Nat} {lv : List (Option Value)} {st : List Value} {σ : mS} (hdg : decode cc pc = .ok (.getfield j, 3)) (X : mCtx p s m args c h k ci N nL cl D cA cB A cc own C T ty0)
    (hm : mGet h k (mW p l e R s m args below meth c h ci N nL cl D cA cB ad A Qf) (pc + 3) lv st σ j) : mW p l e R s m args below meth c h ci N nL cl D cA cB ad A Qf (pc, lv, st, σ) := by
  obtain ⟨hx, hb, hml, hown, hts, hK, hc, hin, hty, hnm, hfl, hkd, hko, hA⟩ := X
  unfold mGet at hm
  split at hm
  · next st' =>
    split at hm
    · next sl hsl =>
      intro H locs ls hP hD hS hl
      obtain ⟨h1, h2, h3⟩ := hfl j sl hsl
      exact va_get (D := D) (ci := ci) (v := mFc h ad σ sl) (C := C) (T := T) (N := N) hx hb hts hin hown hK hP 0 rfl hc sl h1 (hts _ h3) (fun _ h9 => by rw [← h2]; exact h9) (by simp [h1]) hdg (hm H locs ls hP hD hS hl)
    · exact hm.elim
  · exact hm.elim
theorem mS_put {pc j : Nat} {lv : List (Option Value)} {st : List Value} {σ : mS} (hdg : decode cc pc = .ok (.putfield j, 3)) (X : mCtx p s m args c h k ci N nL cl D cA cB A cc own C T ty0)
    (hm : mPut h k (mW p l e R s m args below meth c h ci N nL cl D cA cB ad A Qf) (pc + 3) lv st σ j) : mW p l e R s m args below meth c h ci N nL cl D cA cB ad A Qf (pc, lv, st, σ) := by
  obtain ⟨hx, hb, hml, hown, hts, hK, hc, hin, hty, hnm, hfl, hkd, hko, hA⟩ := X
  unfold mPut at hm
  split at hm
  · next x st' =>
    split at hm
    · next sl hsl =>
      intro H locs ls hP hD hS hl
      obtain ⟨h1, h2, h3⟩ := hfl j sl hsl
      obtain ⟨g1, g2⟩ := hkd sl h1 hm.1
      refine va_put (D := D) (ci := ci) (v := .int x) (ty := .int) (C := C) (T := T) (N := N) hx hb hts hin ty0 hty hnm hown hK hP hD hS 0 rfl hc sl h1 (hts _ h3) (fun _ h9 => by rw [← h2]; exact h9) g1 g2 rfl rfl (by simp [h1]) hdg (fun H1 locs1 hP1 hD1 hS1 => ?_)
      rw [mWs_put h1 hm.1] at hP1 hD1
      exact hm.2 H1 locs1 ls hP1 hD1 hS1 hl
    · exact hm.elim
  · exact hm.elim
theorem mS_ldE {pc : Nat} {lv : List (Option Value)} {st : List Value} {σ : mS} (hdg : decode cc pc = .ok (.iaload, 1)) (X : mCtx p s m args c h k ci N nL cl D cA cB A cc own C T ty0)
    (hm : mLdE h (mW p l e R s m args below meth c h ci N nL cl D cA cB ad A Qf) (pc + 1) lv st σ) : mW p l e R s m args below meth c h ci N nL cl D cA cB ad A Qf (pc, lv, st, σ) := by
  obtain ⟨hx, hb, hml, hown, hts, hK, hc, hin, hty, hnm, hfl, hkd, hko, hA⟩ := X
  unfold mLdE at hm
  split at hm
  · next i a st' =>
    intro H locs ls hP hD hS hl
    have ha : (mWs h ci N cA cB ad σ)[a]? = some (ad a, .inl (cA, h.2.2.1 a, .inl (σ.2 a))) := by rw [mWs_arr hm.1.1]; simp [mAe, hm.1.2]
    exact va_iald hx hb hK hP a 0 ha rfl hm.2.1 hdg (hm.2.2 H locs ls hP hD hS hl)
  · exact hm.elim
theorem mS_stE {pc : Nat} {lv : List (Option Value)} {st : List Value} {σ : mS} (hdg : decode cc pc = .ok (.iastore, 1)) (X : mCtx p s m args c h k ci N nL cl D cA cB A cc own C T ty0)
    (hm : mStE h (mW p l e R s m args below meth c h ci N nL cl D cA cB ad A Qf) (pc + 1) lv st σ) : mW p l e R s m args below meth c h ci N nL cl D cA cB ad A Qf (pc, lv, st, σ) := by
  obtain ⟨hx, hb, hml, hown, hts, hK, hc, hin, hty, hnm, hfl, hkd, hko, hA⟩ := X
  unfold mStE at hm
  split at hm
  · next x i a st' =>
    intro H locs ls hP hD hS hl
    have ha : (mWs h ci N cA cB ad σ)[a]? = some (ad a, .inl (cA, h.2.2.1 a, .inl (σ.2 a))) := by rw [mWs_arr hm.1.1]; simp [mAe, hm.1.2]
    refine va_iast hx hb hK hP hD hS a 0 ha rfl hm.2.1 hdg (fun H1 locs1 hP1 hD1 hS1 => ?_)
    rw [mWs_up hm.1] at hP1 hD1
    exact hm.2.2 H1 locs1 ls hP1 hD1 hS1 hl
  · exact hm.elim
theorem mS_ldR {pc : Nat} {lv : List (Option Value)} {st : List Value} {σ : mS} (hdg : decode cc pc = .ok (.aaload, 1)) (X : mCtx p s m args c h k ci N nL cl D cA cB A cc own C T ty0)
    (hm : mLdR h (mW p l e R s m args below meth c h ci N nL cl D cA cB ad A Qf) (pc + 1) lv st σ) : mW p l e R s m args below meth c h ci N nL cl D cA cB ad A Qf (pc, lv, st, σ) := by
  obtain ⟨hx, hb, hml, hown, hts, hK, hc, hin, hty, hnm, hfl, hkd, hko, hA⟩ := X
  unfold mLdR at hm
  split at hm
  · next i a st' =>
    split at hm
    · next b hb2 =>
      intro H locs ls hP hD hS hl
      have ha : (mWs h ci N cA cB ad σ)[a]? = some (ad a, .inl (cB, h.2.2.1 a, .inr (.inr (.inr (.inr (fun i => some (ad (b + i)))))))) := by rw [mWs_arr hm.1]; simp [mAe, hb2]
      have hlt : i.toNatClampNeg < h.2.2.1 a := Nat.not_le.mp fun q => hm.2.1 (Or.inr q)
      exact W.aald (v := .ref (ad (b + i.toNatClampNeg))) (ty := .array .int) hx hb (hP a _ ha) ((hK.2 1 _ rfl).1 (h.2.2.1 a) (fun j => va_rf (some (ad (b + j))))) rfl (fun q => by cases q) (by show ¬ (i < 0 ∨ (arrV _ _ _).slots.size ≤ _); rw [arrV_size]; exact hm.2.1) (by show (arrV _ _ _).slots[_]? = _; rw [arrV_read _ _ hlt]; rfl) rfl rfl hdg (hm.2.2 H locs ls hP hD hS hl)
    · exact hm.elim
  · exact hm.elim
theorem mS_tsw {pc n : Nat} {d lo hi : Int} {os : Array Int} {lv : List (Option Value)} {st : List Value} {σ : mS} (hdg : decode cc pc = .ok (.tableswitch d lo hi os, n)) (X : mCtx p s m args c h k ci N nL cl D cA cB A cc own C T ty0)
    (hm : mTsw (mW p l e R s m args below meth c h ci N nL cl D cA cB ad A Qf) pc lv st σ d lo hi os.toList) : mW p l e R s m args below meth c h ci N nL cl D cA cB ad A Qf (pc, lv, st, σ) := by
  have key : ∀ (os : List Int) (st : List Value) (x : Int32) (lo : Int), mTab (mW p l e R s m args below meth c h ci N nL cl D cA cB ad A Qf) pc lv st σ x lo os → ∀ (j : Nat) (o : Int), os[j]? = some o → x.toInt = lo + j → mJ (mW p l e R s m args below meth c h ci N nL cl D cA cB ad A Qf) pc o lv st σ := by
    intro os
    induction os with
    | nil => intro st x lo _ j o ho; simp at ho
    | cons a os ih =>
      intro st x lo hm j o ho hxj
      cases j with
      | zero =>
        simp only [List.getElem?_cons_zero, Option.some.injEq] at ho
        subst ho
        exact hm.1 (by simpa using hxj)
      | succ j =>
        rw [List.getElem?_cons_succ] at ho
        exact ih st x (lo + 1) hm.2 j o ho (by rw [hxj]; push_cast; omega)
  unfold mTsw at hm
  split at hm
  · next x st' =>
    obtain ⟨hlen, hd, ht⟩ := hm
    intro H locs ls hP hD hS hl
    by_cases hout : x.toInt < lo ∨ hi < x.toInt
    · exact lv_tableOut X.1 X.2.1 hdg hout (mTg_eq (hd hout).1) ((hd hout).2 H locs ls hP hD hS hl)
    · have h1 : ¬ x.toInt < lo := fun q => hout (Or.inl q)
      have h2 : ¬ hi < x.toInt := fun q => hout (Or.inr q)
      have hj : (x.toInt - lo).toNat < os.toList.length := by omega
      have hj2 : os.toList[(x.toInt - lo).toNat]? = some (os.toList[(x.toInt - lo).toNat]) := List.getElem?_eq_getElem hj
      have hq := key os.toList st' x lo ht _ _ hj2 (by omega)
      exact lv_tableIn X.1 X.2.1 hdg h1 h2 (by rw [← Array.getElem?_toList]; exact hj2) (mTg_eq hq.1) (hq.2 H locs ls hP hD hS hl)
  · exact hm.elim
theorem mS_lsw {pc n : Nat} {d : Int} {ps : Array (Int × Int)} {lv : List (Option Value)} {st : List Value} {σ : mS} (hdg : decode cc pc = .ok (.lookupswitch d ps, n)) (X : mCtx p s m args c h k ci N nL cl D cA cB A cc own C T ty0)
    (hm : mLsw (mW p l e R s m args below meth c h ci N nL cl D cA cB ad A Qf) pc lv st σ d ps.toList) : mW p l e R s m args below meth c h ci N nL cl D cA cB ad A Qf (pc, lv, st, σ) := by
  have key : ∀ (ps : List (Int × Int)) (st : List Value) (x : Int32), mLk (mW p l e R s m args below meth c h ci N nL cl D cA cB ad A Qf) pc lv st σ x d ps → mJ (mW p l e R s m args below meth c h ci N nL cl D cA cB ad A Qf) pc (Op.lookupswitch.offset ps d x.toInt) lv st σ := by
    intro ps
    induction ps with
    | nil => intro st x hm; exact hm
    | cons a ps ih =>
      intro st x hm
      obtain ⟨a, o⟩ := a
      rw [Op.lookupswitch.offset_cons]
      by_cases q : x.toInt = a
      · rw [if_pos q.symm]; exact hm.1 q
      · rw [if_neg (fun z => q z.symm)]; exact ih st x (hm.2 q)
  unfold mLsw at hm
  split at hm
  · next x st' =>
    obtain ⟨hp, ht⟩ := hm
    intro H locs ls hP hD hS hl
    have hq := key ps.toList st' x ht
    exact lv_lookup X.1 X.2.1 hdg hp rfl (mTg_eq hq.1) (hq.2 H locs ls hP hD hS hl)
  · exact hm.elim
end MSOUND
