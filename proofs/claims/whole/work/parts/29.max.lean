section MMEET
variable {p : Program} {l : Launch} {e : Env} {R : Room} {s : State} {m : MethodId} {args : Array Value} {below : List Frame} {meth : Method} {c : Code}
variable {h : mH} {k : mK} {ci N nL d : Nat} {cl : List vw_C} {D : va_G} {cA cB : ClassId} {ad : Nat → Nat} {A : Nat → Prop} {Qf : State → Prop} {cc : ByteArray} {own C : String} {T : u_T} {ty0 : Nat → FieldType} {bl : Nat} {Q : Int32 → mS → Prop}
/-- Math.max, which the kit walks -/
def mMax (cc : ByteArray) (jm : Nat) (X : mT → Prop) : Prop := ∀ (pc : Nat) (lv : List (Option Value)) (st : List Value) (σ : mS) (x y : Int32), decode cc pc = .ok (.invokestatic jm, 3) → st.length ≤ 8 → X (pc + 3, lv, .int (if x < y then y else x) :: st, σ) → X (pc, lv, .int y :: .int x :: st, σ)
set_option maxHeartbeats 4000000 in
theorem mMeetM {y : MethodName} {maxL : Nat} {ret : Option FieldType} {cs : mC} (hy : plainName y.cls = true) (hyo : y.cls = own) (hT : mTb h k ci N cl own C T ty0) (hca : ∀ j cs, mFind k.2.2 j = some cs → mOK h ci N cl C own d j cs)
    (hret : (bl = 0 ∧ cs.2.2.1 = false ∧ ret = some .int) ∨ (bl = 1 ∧ cs.2.2.1 = false ∧ ret = some .boolean) ∨ (bl = 2 ∧ cs.2.2.1 = true ∧ ret = none)) (hmx : cs.1 + (bif cs.2.1 then 0 else 1) ≤ maxL) (hd1 : 1 ≤ d) {jm : Nat} (wl : Cond.methodLink own jm Lib.Math.max.name ∈ gW) (ws : Cond.static Lib.Math.max.name ∈ gW) (wi : Cond.initialized "java/lang/Math" ∈ gW) (wc : Cond.code Lib.Math.max.name Lib.Math.max.code 2 (some .int) ∈ gW)
    (pure : ∀ (σ : mS) (xs : List Int32), xs.length = cs.1 → cs.2.2.2.1 σ xs → ∀ X : mT → Prop, mGo h k cc bl (cs.2.2.2.2 σ xs) X → mMax cc jm X → X (0, mEn cs.2.1 maxL xs, [], σ)) : mCt h ci N cl y cc maxL ret d cs := by
  intro l D cA cB ad sz σ xs hlen hpre
  refine Met.ofW (cc := cc) (maxL := maxL) (ret := ret) hy rfl ?_
  intro p e s m args below meth c s₁ B hml hv
  obtain ⟨rfl, hsz, hP, hK, hD0⟩ := hv
  have hx := B.exec
  have hb := B.bytes
  have hr := B.returns
  have hts := atoms_spec (ws := Cond.code y cc maxL ret :: gW) B.pre
  have hown : s.vm.findClass own = some m.cls := hyo ▸ findClass_of_methodNamed B.named
  have hlocks := B.notSynchronized
  subst hsz
  have hD := hD0.self (sz := s.heap.size)
  have hS : va_S (va_A (mWs h ci N cA cB ad σ) s.heap.size) s.heap s.heap [] := va_S.rf
  have hA : ∀ q : Nat, s.heap.size ≤ q → va_A (mWs h ci N cA cB ad σ) s.heap.size q := fun q hq => Or.inr hq
  obtain ⟨t1, t2, t3, t4, t5, t6, t7⟩ := hT
  have X : mCtx p s m (mAv cs.2.1 ad xs).toArray c h k ci N maxL cl D cA cB (va_A (mWs h ci N cA cB ad σ) s.heap.size) cc own C T ty0 := ⟨hx, hb, hml, hown, fun w hw => hts w (List.mem_cons_of_mem _ hw), hK, t1, t2, t3, t4, t5, t6, t7, hA⟩
  have hgo : mGo h k cc bl (cs.2.2.2.2 σ xs) (mW p l e (headSpec (Cond.code y cc maxL ret :: gW) (mRm d)).room s m (mAv cs.2.1 ad xs).toArray below meth c h ci N maxL cl D cA cB ad (va_A (mWs h ci N cA cB ad σ) s.heap.size) (MQ below (mQc cs.2.2.1 (cs.2.2.2.2 σ xs) (fun u t => mAtW h ci N cl D cA cB ad (va_A (mWs h ci N cA cB ad σ) s.heap.size) u t) (va_A (mWs h ci N cA cB ad σ) s.heap.size)) (mAv cs.2.1 ad xs).toArray s 0 0 (va_A (mWs h ci N cA cB ad σ) s.heap.size))) := by
    refine ⟨fun S hS => mSound X hca rfl ?_ ?_ S hS, fun pc lv lv' st σ hle hw => mW_le hle hw⟩
    · intro v u H locs ls pc hdg hv hq hP1 hD1 hS1
      rcases hret with ⟨e1, e2, e3⟩ | ⟨e1, e2, e3⟩ | ⟨e1, e2, e3⟩
      · refine W.zret (ty := .int) hx hb (hr.trans e3) rfl (fun t ht hW => ?_) hS1.2.2 hdg
        rw [e2]
        exact ⟨⟨v, u, rfl, hq, by rw [ht]; exact hP1, va_K.moved hW.alike hK, hD1⟩, hS1.F ht⟩
      · refine W.zret (ty := .boolean) hx hb (hr.trans e3) ?_ (fun t ht hW => ?_) hS1.2.2 hdg
        · rcases hv with hv | hv
          · omega
          · rcases hv.2 with rfl | rfl <;> rfl
        · rw [e2]
          exact ⟨⟨v, u, rfl, hq, by rw [ht]; exact hP1, va_K.moved hW.alike hK, hD1⟩, hS1.F ht⟩
      · exfalso
        rcases hv with hv | hv <;> omega
    · intro u H locs ls pc hdg hv hq hP1 hD1 hS1
      rcases hret with ⟨e1, e2, e3⟩ | ⟨e1, e2, e3⟩ | ⟨e1, e2, e3⟩
      · omega
      · omega
      · refine W.vret hx hb (hr.trans e3) (fun t ht hW => ?_) hS1.2.2 hdg
        rw [e2]
        exact ⟨⟨u, rfl, hq, by rw [ht]; exact hP1, va_K.moved hW.alike hK, hD1⟩, hS1.F ht⟩
  have hfin := pure σ xs hlen hpre _ hgo (by
    intro pc lv st u x y hdg hst hw H locs ls hP1 hD1 hS1 hl1
    exact va_mmax hx hb (hml.trans hl1.2.1.symm) hown (X.2.2.2.2.1 _ wl) (X.2.2.2.2.1 _ ws) (X.2.2.2.2.1 _ wi) (X.2.2.2.2.1 _ wc) hd1 (by rw [cv_room]; show st.length + 13 ≤ 35 * d; omega) (Nat.zero_le _) (Nat.zero_le _) hdg (hw H locs ls hP1 hD1 hS1 hl1))
  have hlA : (mA0 cs.2.1 xs).length ≤ maxL := by
    unfold mA0
    rw [List.length_append, List.length_map, hlen]
    cases hq : cs.2.1 <;> rw [hq] at hmx <;> simp at hmx ⊢ <;> omega
  have hl := lv_entry (mAv cs.2.1 ad xs) (n := maxL) (by rw [← mA0_cv, mSl, List.length_map]; exact hlA)
  have hls : mLH ad ((lg_sl (mAv cs.2.1 ad xs) ++ List.replicate (maxL - (lg_sl (mAv cs.2.1 ad xs)).length) Slot.unset).toArray) maxL (mEn cs.2.1 maxL xs) := by
    refine ⟨?_, hl.1, hl.2.1, fun i v hi => ?_⟩
    · unfold mEn
      rw [List.length_append, List.length_map, List.length_replicate]
      omega
    · have hv := mAt_en _ _ i v hi
      rw [← mA0_cv, mSl]
      have hil : i < (mA0 cs.2.1 xs).length := (List.getElem?_eq_some_iff.mp hv).1
      rw [List.getElem?_toArray, List.getElem?_append_left (by rw [List.length_map]; exact hil), List.getElem?_map, hv]
      rfl
  rw [lg_entry_eq]
  exact hfin s.heap [] _ hP hD hS hls
end MMEET
