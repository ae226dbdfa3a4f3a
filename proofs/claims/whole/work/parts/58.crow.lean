/-! THE CONSTRUCTORS' OWN INSTRUCTIONS: new rows whose classes are the known ones; the clone of a static row -/
theorem arrV_cg (cI : ClassId) {N : Nat} {f g : Nat → Value} (h : ∀ i, i < N → f i = g i) : arrV cI N f = arrV cI N g := by
  unfold arrV
  rw [show (fun j : Fin N => f j.val) = (fun j : Fin N => g j.val) from funext fun j => h j.val j.isLt]
theorem nm_aa : "[" ++ (FieldType.array .int).toString = "[[I" := by decide +kernel
theorem nm_a : (FieldType.array .int).toString = "[I" := by decide +kernel
theorem va_AOA.moved {u U : State} (hvm : u.vm.Alike U.vm) (h : va_AOA .int u) : va_AOA .int U := by
  have hidx : ∀ comp : ClassId, (U.vm.classes.findIdx? fun (x : Class) => match x.kind with | .array component _ => component == comp | _ => false) = (u.vm.classes.findIdx? fun (x : Class) => match x.kind with | .array component _ => component == comp | _ => false) := by
    intro comp
    have e3 : U.vm.bare = u.vm.bare := by first | exact hvm.bare_eq | exact hvm.bare_eq.symm
    exact (va_idx_bare U.vm comp).symm.trans ((congrArg (fun v : Vm => v.classes.findIdx? fun (x : Class) => match x.kind with | .array component _ => component == comp | _ => false) e3).trans (va_idx_bare u.vm comp))
  unfold va_AOA Cond.before Cond.holds at h ⊢
  simp only [Cond.value, beq_iff_eq] at h ⊢
  cases hc : u.vm.findClass (FieldType.array .int).toString with
  | none => rw [hc] at h; simp at h
  | some comp =>
    have f1 : U.vm.findClass (FieldType.array .int).toString = some comp := by rw [hvm.findClass]; exact hc
    rw [hc, Option.bind_some, Option.bind_eq_some_iff] at h
    obtain ⟨c, hi, hb⟩ := h
    rw [f1, Option.bind_some, Option.bind_eq_some_iff]
    refine ⟨c, (hidx comp).trans hi, ?_⟩
    rw [Option.map_eq_some_iff] at hb ⊢
    obtain ⟨k, hk, hb⟩ := hb
    obtain ⟨k', hk', he⟩ := hvm.2.2 _ _ hk
    refine ⟨k', hk', ?_⟩
    have hkk : k'.kind = k.kind := by rw [he]
    have f2 : U.vm.findClass ("[" ++ (FieldType.array .int).toString) = u.vm.findClass ("[" ++ (FieldType.array .int).toString) := hvm.findClass _ _
    rw [hkk, f2]
    exact hb
section CROW
variable {p : Program} {l : Launch} {e : Env} {R : Room} {s : State} {m : MethodId} {args : Array Value} {below : List Frame} {meth : Method} {c : Code} {H : Heap} {locs : List Loc} {cells slots : Nat} {Q : State → Prop}
variable {cc : ByteArray} {pc : Nat} {ls : Array Slot} {rest : List Value} {D : va_G} {cl : List vw_C} {A : Nat → Prop} {ws : va_W} {H0 : Heap} {cA cB : ClassId}
theorem cr_newa (hexec : p.tables.exec = Jvm.exec) (hb : c.code = cc) (harr : (Cond.arrayClass .int).before args s = true) (hK : va_K D cl [(cA, .int), (cB, .array .int)] s) (hP : va_P D cl ws H) (hD : va_D A ws) (hS : va_S A H0 H locs) (hA : ∀ q, H0.size ≤ q → A q) {n : Int32} {N' : Nat} (hn : ¬ n < 0) (hN : n.toNatClampNeg = N') (hbytes : N' * 4 ≤ 536870912) (hcells : cells + 1 ≤ R.cells) (hslots : slots + N' ≤ R.slots) (hdg : decode cc pc = .ok (.newarray .int, 2))
    (kk : ∀ (q : Nat) (H1 : Heap), va_P D cl (ws ++ [(q, .inl (cA, N', .inl (fun _ => 0)))]) H1 → va_D A (ws ++ [(q, .inl (cA, N', .inl (fun _ => 0)))]) → va_S A H0 H1 locs → W p l e R s m args below meth c H1 locs (cells + 1) (slots + N') Q (F0 m (pc + 2) ls (.ref q :: rest))) : W p l e R s m args below meth c H locs cells slots Q (F0 m pc ls (.int n :: rest)) := by
  refine va_newa (atype := .int) (ty := .int) (a0 := (N', .inl (fun _ => 0))) hexec hb harr rfl hK hP hD hS hA (fun _ => rfl) hn hN hbytes hcells hslots hdg (fun q cA1 H1 hK1 hP1 hD1 hS1 => ?_)
  have e1 := va_nm_int (hK.2 0 _ rfl).2
  have e2 := va_nm_int (hK1.2 2 _ rfl).2
  cases Option.some.inj (e2.symm.trans e1)
  exact kk q H1 hP1 hD1 hS1
theorem cr_mna (hexec : p.tables.exec = Jvm.exec) (hb : c.code = cc) {own : String} {index : Nat} (hown : s.vm.findClass own = some m.cls) (hclink : (Cond.classLink own index "[[I").before args s = true) (hover : va_AOA .int s) (harr : (Cond.arrayClass .int).before args s = true) (hK : va_K D cl [(cA, .int), (cB, .array .int)] s) (hP : va_P D cl ws H) (hD : va_D A ws) (hS : va_S A H0 H locs) (hA : ∀ q, H0.size ≤ q → A q) {n k : Int32} {N' K' : Nat} (hn : ¬ n < 0) (hk : ¬ k < 0) (hN : n.toNatClampNeg = N') (hM : k.toNatClampNeg = K') (hb1 : N' * 4 ≤ 536870912) (hb2 : K' * 4 ≤ 536870912) (hcells : cells + (1 + N') ≤ R.cells) (hslots : slots + (N' + N' * K') ≤ R.slots) (hdg : decode cc pc = .ok (.multianewarray index 2, 4))
    (kk : ∀ (q : Nat) (H1 : Heap), va_P D cl (ws ++ (q, .inl (cB, N', .inr (.inr (.inr (.inr (fun i => some (q + 1 + i))))))) :: (List.range N').map (fun i => (q + 1 + i, .inl (cA, K', .inl (fun _ => 0))))) H1 → va_D A (ws ++ (q, .inl (cB, N', .inr (.inr (.inr (.inr (fun i => some (q + 1 + i))))))) :: (List.range N').map (fun i => (q + 1 + i, .inl (cA, K', .inl (fun _ => 0))))) → va_S A H0 H1 locs → W p l e R s m args below meth c H1 locs (cells + 1 + N') (slots + N' + N' * K') Q (F0 m (pc + 4) ls (.ref q :: rest))) : W p l e R s m args below meth c H locs cells slots Q (F0 m pc ls (.int k :: .int n :: rest)) := by
  subst hN
  subst hM
  intro T hT Xs
  obtain ⟨vm₁, cB1, comp, -, fA, fC, hO, -, X', step⟩ := Xs.multianewarray2F (ty := .int) hexec hown (by rw [nm_aa]; exact hclink) (va_AOA.use hover) harr (g := F0 m pc ls (.int k :: .int n :: rest)) rfl (by rw [hb]; exact hdg) rfl hn hk hb1 hb2 (by omega) rfl rfl hcells hslots
  have e1 : some comp = some cA := by rw [← fC, nm_a]; exact va_nm_int (hK.2 0 _ rfl).2
  cases e1
  have e2 : some cB1 = some cB := fA.symm.trans (hK.2 1 _ rfl).2
  cases e2
  generalize hF : Jvm.Free.Multi.fill (T.setVm vm₁) cB cA n.toNatClampNeg k.toNatClampNeg (defaultValue .int) n.toNatClampNeg = F at X' step
  have hTh : (T.setVm vm₁).heap = H := hT
  obtain ⟨f1, f2, -, -⟩ := Jvm.Free.Multi.fill_facts (T.setVm vm₁) cB cA n.toNatClampNeg k.toNatClampNeg (defaultValue .int) n.toNatClampNeg
  rw [hF, hTh] at f1 f2
  have hold : ∀ x : Nat, x < H.size → F.heap[x]? = H[x]? := fun x hx => by
    have := Jvm.Free.Multi.fill_old (T.setVm vm₁) cB cA n.toNatClampNeg k.toNatClampNeg (defaultValue .int) (a := x) (by rw [hTh]; exact hx) n.toNatClampNeg
    rw [hF, hTh] at this
    exact this
  have hz : Jvm.Free.Multi.innerC cA k.toNatClampNeg (defaultValue .int) = vp_cell cA (k.toNatClampNeg, .inl (fun _ => 0)) := (arrV_new cA k.toNatClampNeg (.int 0))
  have hrow : ∀ j : Nat, j < n.toNatClampNeg → F.heap[H.size + 1 + j]? = some (vp_cell cA (k.toNatClampNeg, .inl (fun _ => 0))) := fun j hj => by
    have := Jvm.Free.Multi.fill_inner (T.setVm vm₁) cB cA n.toNatClampNeg k.toNatClampNeg (defaultValue .int) n.toNatClampNeg j hj
    rw [hF, hTh, hz] at this
    exact this
  have hout : Jvm.Free.Multi.outerC cB n.toNatClampNeg H.size n.toNatClampNeg = vp_cell cB (n.toNatClampNeg, .inr (.inr (.inr (.inr (fun i => some (H.size + 1 + i)))))) := by
    rw [vp_cell_q, vr_outer]
    exact arrV_cg cB (fun i hi => by rw [if_pos hi])
  rw [hout] at f2
  have hP0 : va_P D cl ws F.heap := hP.kept (fun k9 x hx => hold x.1 ((hP k9 x hx).lt))
  have hrg : ∀ (j : Nat) (x : Nat × va_E), ((List.range n.toNatClampNeg).map (fun i => ((H.size + 1 + i, .inl (cA, k.toNatClampNeg, .inl (fun _ => 0))) : Nat × va_E)))[j]? = some x → j < n.toNatClampNeg ∧ x = (H.size + 1 + j, .inl (cA, k.toNatClampNeg, .inl (fun _ => 0))) := fun j x hx => by
    by_cases h9 : j < n.toNatClampNeg
    · rw [List.getElem?_map, List.getElem?_range h9] at hx
      exact ⟨h9, (Option.some.inj hx).symm⟩
    · rw [List.getElem?_eq_none (by rw [List.length_map, List.length_range]; omega)] at hx
      cases hx
  have hP2 : va_P D cl (ws ++ (H.size, .inl (cB, n.toNatClampNeg, .inr (.inr (.inr (.inr (fun i => some (H.size + 1 + i))))))) :: (List.range n.toNatClampNeg).map (fun i => (H.size + 1 + i, .inl (cA, k.toNatClampNeg, .inl (fun _ => 0))))) F.heap := hP0.app (fun k9 x hx => by
    cases k9 with
    | zero => cases hx; exact f2
    | succ j =>
      rw [List.getElem?_cons_succ] at hx
      obtain ⟨h1, rfl⟩ := hrg j x hx
      exact hrow j h1)
  have hadr : ∀ (j : Nat) (x : Nat × va_E), ((H.size, .inl (cB, n.toNatClampNeg, .inr (.inr (.inr (.inr (fun i => some (H.size + 1 + i))))))) :: (List.range n.toNatClampNeg).map (fun i => ((H.size + 1 + i, .inl (cA, k.toNatClampNeg, .inl (fun _ => 0))) : Nat × va_E)))[j]? = some x → x.1 = H.size + j := fun j x hx => by
    cases j with
    | zero => cases hx; rfl
    | succ j =>
      rw [List.getElem?_cons_succ] at hx
      obtain ⟨h1, rfl⟩ := hrg j x hx
      show H.size + 1 + j = _
      omega
  have hD2 : va_D A (ws ++ (H.size, .inl (cB, n.toNatClampNeg, .inr (.inr (.inr (.inr (fun i => some (H.size + 1 + i))))))) :: (List.range n.toNatClampNeg).map (fun i => (H.size + 1 + i, .inl (cA, k.toNatClampNeg, .inl (fun _ => 0))))) := by
    refine ⟨fun i j x y hi hj hxy => ?_, fun k9 x hx => ?_⟩
    · by_cases h1 : i < ws.length <;> by_cases h2 : j < ws.length
      · rw [List.getElem?_append_left h1] at hi
        rw [List.getElem?_append_left h2] at hj
        exact hD.1 i j x y hi hj hxy
      · rw [List.getElem?_append_left h1] at hi
        rw [List.getElem?_append_right (by omega)] at hj
        have := (hP i x hi).lt
        have := hadr _ _ hj
        omega
      · rw [List.getElem?_append_right (by omega)] at hi
        rw [List.getElem?_append_left h2] at hj
        have := (hP j y hj).lt
        have := hadr _ _ hi
        omega
      · rw [List.getElem?_append_right (by omega)] at hi hj
        have := hadr _ _ hi
        have := hadr _ _ hj
        omega
    · by_cases h1 : k9 < ws.length
      · rw [List.getElem?_append_left h1] at hx
        exact hD.2 k9 x hx
      · rw [List.getElem?_append_right (by omega)] at hx
        have := hadr _ _ hx
        exact hA _ (by have := hS.1; omega)
  obtain ⟨t, a1, b1⟩ := kk H.size F.heap hP2 hD2 ⟨by rw [f1]; have := hS.1; omega, fun x h1 h2 => (hold x (Nat.lt_of_lt_of_le h1 hS.1)).trans (hS.2.1 x h1 h2), hS.2.2⟩ F rfl X'
  refine ⟨t, step t ?_, b1⟩
  have e : T.heap.size = H.size := by rw [hT]
  rw [e]
  exact a1
theorem fs_cell (k : ClassId) : ({ cls := k, slots := #[.int 2, .int 2, .int 3, .int 3] } : Cell) = vp_cell k (4, .inl (c0S.2 1)) := by
  show _ = arrV k 4 (fun j => .int (c0S.2 1 j))
  first | rfl | (unfold arrV; congr 1)
theorem cr_clone (hexec : p.tables.exec = Jvm.exec) (hb : c.code = cc) (hml : c.maxLocals = ls.size) {own : String} {index : Nat} (hown : s.vm.findClass own = some m.cls)
    (hlink : (Cond.methodLink own index ⟨"[I", "clone", "()Ljava/lang/Object;"⟩).before args s = true) (hsame : (Cond.sameMethod "[I" "java/lang/Object" "clone" "()Ljava/lang/Object;").before args s = true)
    (hnat : (Cond.native ⟨"java/lang/Object", "clone", "()Ljava/lang/Object;"⟩).before args s = true) (hinst : (Cond.instanceMethod ⟨"java/lang/Object", "clone", "()Ljava/lang/Object;"⟩).before args s = true)
    (hsel : (Cond.selects "[I" ⟨"[I", "clone", "()Ljava/lang/Object;"⟩ ⟨"java/lang/Object", "clone", "()Ljava/lang/Object;"⟩).before args s = true) (hcl : va_Nw (.castable "[I" "java/lang/Cloneable") s)
    (hK : va_K D cl [(cA, .int), (cB, .array .int)] s) (hP : va_P D cl ws H) (hD : va_D A ws) (hS : va_S A s.heap H locs) (hA : ∀ q, s.heap.size ≤ q → A q) {t0 : Nat} {cell0 : Cell} (hc1 : s.heap[t0]? = some cell0) (hc2 : cell0.cls = cA) (hc3 : ∀ k, cell0.vm ≠ .statics k) (hc4 : cell0.vm ≠ .unknown) (hc5 : cell0.slots = #[.int 2, .int 2, .int 3, .int 3]) (hc6 : ¬ A t0)
    (hframes : 1 ≤ R.frames) (hlocals : (rest.map fun v => v.category).sum + 14 ≤ R.locals) (hcells : cells + 1 ≤ R.cells) (hslots : slots + 4 ≤ R.slots) (hdg : decode cc pc = .ok (.invokevirtual index, 3))
    (kk : ∀ (q : Nat) (H1 : Heap), va_P D cl (ws ++ [(q, .inl (cA, 4, .inl (c0S.2 1)))]) H1 → va_D A (ws ++ [(q, .inl (cA, 4, .inl (c0S.2 1)))]) → va_S A s.heap H1 locs →
      W p l e R s m args below meth c H1 locs (cells + 1) (slots + 4) Q (F0 m (pc + 3) ls (.ref q :: rest))) : W p l e R s m args below meth c H locs cells slots Q (F0 m pc ls (.ref t0 :: rest)) := by
  subst hc2
  have hnm := va_nm_int (hK.2 0 _ rfl).2
  obtain ⟨c0, t1, g1, g2, g3⟩ := Cond.castable_spec (va_Nw.use (A := args) rfl hcl)
  cases hnm.symm.trans g1
  intro T hT X
  have hcellT : T.heap[t0]? = some cell0 := by rw [hT, hS.2.1 t0 (Array.getElem?_eq_some_iff.mp hc1).1 hc6]; exact hc1
  obtain ⟨-, kA, hkA, comp, hkind⟩ := State.isArrayOf_alike X.warmed.alike ((hK.2 0 _ rfl).1 0 (fun _ => .null))
  obtain ⟨-, kS, hkS, compS, hkindS⟩ := (hK.2 0 _ rfl).1 0 (fun _ => .null)
  obtain ⟨vm', X', st⟩ := X.cloneArray hexec hown hlink hsame hnat hinst hsel (a := t0) (cell := cell0) hcellT hc3 hc4 hnm g2 g3
    (fun i v hv => by
      have hk' : T.vm.classes[cell0.cls]? = some kA := hkA
      have hf : fits .int v = true := by
        rw [hc5] at hv
        match i, hv with
        | 0, hv => cases hv; rfl
        | 1, hv => cases hv; rfl
        | 2, hv => cases hv; rfl
        | 3, hv => cases hv; rfl
        | i + 4, hv => simp at hv
      simpa [State.fitsSlot, State.slotType?, hk', hkind] using hf)
    (g := F0 m pc ls (.ref t0 :: rest)) rfl (by rw [hml]) rfl (by rw [hb]; exact hdg) hframes (by show 2 * 0 + _ + 14 ≤ _; omega) hcells (by rw [hc5]; exact hslots) (hloader := Vm.clonesLoader_of_array hkS hkindS)
  rw [hc5, fs_cell] at X'
  generalize hH1 : H.push (vp_cell cell0.cls (4, .inl (c0S.2 1))) = H1
  have z1 : H1.size = H.size + 1 := by rw [← hH1, Array.size_push]
  have e1 : H1[H.size]? = some (vp_cell cell0.cls (4, .inl (c0S.2 1))) := by rw [← hH1, Array.getElem?_push_size]
  have o1 : ∀ q : Nat, q < H.size → H1[q]? = H[q]? := fun q hq => by rw [← hH1, Array.getElem?_push, if_neg (Nat.ne_of_lt hq)]
  have hk : ∀ (k : Nat) (y : Nat × va_E), ws[k]? = some y → H1[y.1]? = H[y.1]? := fun k y hy => o1 y.1 ((hP k y hy).lt)
  obtain ⟨t, b1, b2⟩ := kk H.size H1 ((hP.kept hk).app (fun k y hy => by
      have hz : k < 1 := (List.getElem?_eq_some_iff.mp hy).1
      rw [show k = 0 by omega] at hy
      cases hy
      exact e1)) (hD.push hP rfl (hA _ hS.1)) ⟨Nat.le_trans hS.1 (by omega), fun y h1 h2 => (o1 y (Nat.lt_of_lt_of_le h1 hS.1)).trans (hS.2.1 y h1 h2), hS.2.2⟩
    ((T.setVm vm').pushCell (vp_cell cell0.cls (4, .inl (c0S.2 1)))) (by rw [← hH1, ← hT]; rfl) X'
  refine ⟨t, st t ?_, b2⟩
  rw [hc5, fs_cell, hT]
  exact b1
end CROW
