section LWS
variable {p : Program} {l : Launch} {e : Env} {R : Room} {s : State} {m : MethodId} {args : Array Value} {below : List Frame} {meth : Method} {c : Code}
variable {D : va_G} {cA cB : ClassId} {ad : Nat → Nat} {A : Nat → Prop} {Q : State → Prop} {cc cc' : ByteArray} {own C : String} {T : u_T} {h : mH} {ci N nL d j pc maxL cells slots : Nat} {y : MethodName} {ret : Option FieldType} {cs : mC} {H : Heap} {locs : List Loc} {ls : Array Slot} {σ : mS} {xs : List Int32} {rest : List Value}
theorem gsZ_moved {A : Nat → Prop} {u U : State} (hvm : u.vm.Alike U.vm) (hh : U.heap = u.heap) (h : gsZ A u) : gsZ A U := by
  obtain ⟨t, h1, h2⟩ := h
  refine ⟨t, ?_, ?_⟩
  · rw [hh]; exact va_Z.moved hvm h1
  · rw [hh]; exact va_T.moved hvm h2
theorem mBlindS {h : mH} {ci N sz : Nat} {cl : List vw_C} {D : va_G} {cA cB : ClassId} {ad : Nat → Nat} {A B : Nat → Prop} {σ : mS} {av : List Value} : FrameBlind (va_Pc av (fun U => (U.heap.size = sz ∧ mAtW h ci N cl D cA cB ad A σ U) ∧ gsZ B U)) := fun a U g mk q => by
  obtain ⟨q0, ⟨q1, qP, qK, qD⟩, qz⟩ := q
  exact ⟨q0, ⟨q1, qP, va_K.moved (u := U) (U := U.calling g mk a) (Vm.Alike.refl U.vm) qK, qD⟩, gsZ_moved (u := U) (U := U.calling g mk a) (Vm.Alike.refl U.vm) rfl qz⟩
theorem lw_callS (hx : p.tables.exec = Jvm.exec) (hb : c.code = cc) (hml : c.maxLocals = nL) (hown : s.vm.findClass own = some m.cls) (hts : ∀ w ∈ gW, w.before args s = true) (hct : mCtS h ci N vwC y cc' maxL ret d cs) (hst : cs.2.1 = false) (hvd : cs.2.2.1 = false) (hw : lwM y cc' maxL ret own C j cs.1) (hR : d + 1 ≤ R.frames ∧ 8 + (maxL + 11) + 35 * d ≤ R.locals) (hcl : vwC[ci]? = some (C, T, N)) (hK : va_K D vwC [(cA, .int), (cB, .array .int)] s) (hP : va_P D vwC (mWs h ci N cA cB ad σ) H) (hD : va_D A (mWs h ci N cA cB ad σ)) (hS : va_S A s.heap H locs) (hA : ∀ q : Nat, s.heap.size ≤ q → A q) (hgz : gsZ A s) (hlen : xs.length = cs.1) (hpre : cs.2.2.2.1 σ xs) (hrest : (rest.map fun v => v.category).sum ≤ 8) (hls : ls.size = nL) (hcs : cells ≤ R.cells ∧ slots ≤ R.slots) (hdg : decode cc pc = .ok (.invokevirtual j, 3))
    (kk : ∀ (r : Int32) (u : mS) (H1 : Heap) (locs1 : List Loc), cs.2.2.2.2 σ xs r u → va_P D vwC (mWs h ci N cA cB ad u) H1 → va_D A (mWs h ci N cA cB ad u) → (∀ q : Nat, q < H.size → ¬ va_A (mWs h ci N cA cB ad σ) H.size q → H1[q]? = H[q]?) → va_S A s.heap H1 locs1 → W p l e R s m args below meth c H1 locs1 cells slots Q (F0 m (pc + 3) ls (.int r :: rest))) : W p l e R s m args below meth c H locs cells slots Q (F0 m pc ls ((xs.map Value.int).reverse ++ .ref (ad 0) :: rest)) := by
  obtain ⟨w1, w2, w3, hdd, w4, w5⟩ := hw
  have hF := mFree hA hD hS
  obtain ⟨np, stt, vd, pre, post⟩ := cs
  dsimp only at hst hvd hlen hpre hdd kk
  subst hst
  subst hvd
  refine va_calli (a := (Value.ref (ad 0) :: xs.map Value.int).toArray) (A1 := va_A (mWs h ci N cA cB ad σ) H.size) (free := va_A (mWs h ci N cA cB ad σ) H.size) (mc := 0) (ms := 0) (rest := rest) (post := post σ xs) (B := fun u t => mAtW h ci N vwC D cA cB ad (va_A (mWs h ci N cA cB ad σ) H.size) u t) ?_ hS (fun q _ hq => hF q hq) hF (fun r u t H1 locs1 ht hvm hpo hB hz hk1 hS1 => ?_)
  · refine va_runV (Ts := gW) (own := own) (C := C) (index := j) (n := np) (bytes := cc') (maxL := maxL) (ret := ret) (cc := cc) (nL := nL) (b := ad 0) (As := xs.map Value.int) ⟨hx, hb, hml, hown, hts⟩ (hct l D cA cB ad H.size σ xs hlen hpre) ⟨callB_of np hts (gW_cons w1) rfl rfl rfl (hts _ w2) (hts _ w3) hdd hR, hts _ w4, hts _ w5⟩ ⟨mBlindS, va_recv hK hP (ci := ci) (q0 := 0) hcl rfl, fun U hU hW => ⟨rfl, ⟨by rw [hU], by rw [hU]; exact hP, va_K.moved hW.alike hK, hD.weaken (fun _ _ _ _ => trivial)⟩, ?_⟩⟩ rfl (by rw [List.length_map]; exact hlen) hls rfl (lv_room hrest) hdg hcs
    obtain ⟨t, h1, h2⟩ := hgz
    refine ⟨t, ?_, ?_⟩
    · rw [hU]
      exact va_Z.moved hW.alike ((va_Z.kept h1 hS.2.1).narrow hF)
    · rw [hU]
      exact va_T.moved hW.alike ((va_T.kept h2 hS.2.1).narrow hF)
  · obtain ⟨hP1, -, -⟩ := hB
    rw [ht] at hP1
    exact kk r u H1 locs1 hpo hP1 (mWs_D σ u hD) hk1 hS1
end LWS
