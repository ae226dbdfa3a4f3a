/-- of an array's class: the array class over it (the printed rows below ask for this name, which nothing in the kit defines) -/
def va_AOA (ty : FieldType) (U : State) : Prop := (Cond.arrayOver (.array ty)).before #[] U = true
theorem va_AOA.use {ty : FieldType} {A : Array Value} {U : State} (h : va_AOA ty U) : (Cond.arrayOver (.array ty)).before A U = true := h
/-! ===== BEGIN words of one list among another's, by their places ===== -/
theorem goodIn_r {big : List Cond} (ws : List Cond) (ps : List Nat) (hp : ws = ps.filterMap (fun i => big[i]?)) (h : ws.all goodWord = true) : GoodIn big ws := by
  intro w hw
  have h1 := List.all_eq_true.mp h w hw
  rw [hp] at hw
  obtain ⟨i, -, hi⟩ := List.mem_filterMap.mp hw
  have hm : w ∈ big := by first | exact List.mem_of_getElem? hi | exact List.getElem?_mem hi
  exact ⟨hm, good_of_word h1⟩
theorem goodIn_app {big a b : List Cond} (ha : GoodIn big a) (hb : GoodIn big b) : GoodIn big (a ++ b) := fun w h => (List.mem_append.mp h).elim (ha w) (hb w)
theorem goodIn_ca {big a b : List Cond} {c : Cond} (ha : GoodIn big (c :: a)) (hb : GoodIn big b) : GoodIn big (c :: (a ++ b)) := fun w h => (List.mem_cons.mp h).elim (fun e => ha w (List.mem_cons.mpr (Or.inl e))) (fun h => (List.mem_append.mp h).elim (fun h => ha w (List.mem_cons.mpr (Or.inr h))) (hb w))
theorem goodIn_sub {big ws : List Cond} (hm : ∀ w ∈ ws, w ∈ big) (h : ws.all goodWord = true) : GoodIn big ws := fun w hw => ⟨hm w hw, good_of_word (List.all_eq_true.mp h w hw)⟩
/-! ===== END ===== -/

/-! ===== BEGIN new T[n][m]: the outer array a place, the inner ones among the pooled ===== -/
/-- f, but v at every address of l -/
def vr_up {α : Type} (f : Nat → α) (l : List Nat) (v : α) : Nat → α := fun a => if a ∈ l then v else f a
theorem vr_up_in {α : Type} {f : Nat → α} {l : List Nat} {v : α} {a : Nat} (h : a ∈ l) : vr_up f l v a = v := if_pos h
theorem vr_up_ne {α : Type} {f : Nat → α} {l : List Nat} {v : α} {a : Nat} (h : a ∉ l) : vr_up f l v a = f a := if_neg h
theorem vr_rows {L l : List Nat} {f : Nat → va_E} {e : va_E} (h : ∀ a, a ∈ l → a ∉ L) : va_pl L f ++ l.map (fun a => (a, e)) = va_pl (L ++ l) (vr_up f l e) := by
  unfold va_pl
  rw [List.map_append]
  congr 1
  · apply List.map_congr_left
    intro a ha
    rw [vr_up_ne (fun q => h a q ha)]
  · apply List.map_congr_left
    intro a ha
    rw [vr_up_in ha]
theorem vr_lay {X rows : va_W} {x : Nat × va_E} {pl : va_W} {D : va_G} {cl : List vw_C} {H : Heap} (hP : va_P D cl (((X ++ pl) ++ [x]) ++ rows) H) : va_P D cl ((X ++ [x]) ++ (pl ++ rows)) H := by
  rw [List.append_assoc (X ++ pl)] at hP
  have h := va_P.swap hP
  rw [← List.append_assoc X] at h
  have h2 := va_P.swap h
  rw [List.append_assoc (X ++ [x])] at h2
  exact h2
theorem vr_layD {X rows : va_W} {x : Nat × va_E} {pl : va_W} {A : Nat → Prop} (hD : va_D A (((X ++ pl) ++ [x]) ++ rows)) : va_D A ((X ++ [x]) ++ (pl ++ rows)) := by
  rw [List.append_assoc (X ++ pl)] at hD
  have h := va_D.swap hD
  rw [← List.append_assoc X] at h
  have h2 := va_D.swap h
  rw [List.append_assoc (X ++ [x])] at h2
  exact h2
theorem vr_outer (c : ClassId) (N h0 : Nat) : ∀ i : Nat, Jvm.Free.Multi.outerC c N h0 i = arrV c N (fun j => va_rf (if j < i then some (h0 + 1 + j) else none))
  | 0 => by
    show ({ cls := c, slots := Array.replicate N .null, vm := .none } : Cell) = _
    rw [arrV_new]
    refine congrArg (arrV c N) (funext fun j => ?_)
    simp [va_rf]
  | i + 1 => by
    show (Jvm.Free.Multi.outerC c N h0 i).setSlot i (.ref (h0 + 1 + i)) = _
    rw [vr_outer c N h0 i, arrV_store]
    refine congrArg (arrV c N) (funext fun j => ?_)
    by_cases e : j = i
    · subst e
      simp [updV, va_rf]
    · by_cases h : j < i
      · simp [updV, e, h, Nat.lt_succ_of_lt h]
      · simp [updV, e, h, show ¬ j < i + 1 by omega]
section VGM
variable {p : Program} {l : Launch} {e : Env} {R : Room} {s : State} {m : MethodId} {args : Array Value} {below : List Frame} {meth : Method} {c : Code} {H : Heap} {locs : List Loc} {cells slots : Nat} {Q : State → Prop}
variable {cc : ByteArray} {pc : Nat} {ls : Array Slot} {rest : List Value} {D : va_G} {cl : List vw_C} {A : Nat → Prop} {a : Nat} {tys : List (ClassId × FieldType)} {ws : va_W} {H0 : Heap}
theorem va_mna {X : va_W} {L : List Nat} {f : Nat → va_E} {cc : ByteArray} (hexec : p.tables.exec = Jvm.exec) (hb : c.code = cc) {own : String} {index : Nat} {ty : FieldType} {cy : ClassId} (hown : s.vm.findClass own = some m.cls) (hclink : (Cond.classLink own index ("[" ++ (FieldType.array ty).toString)).before args s = true) (hover : va_AOA ty s) (harr : (Cond.arrayClass ty).before args s = true) (hcy : s.vm.findClass (FieldType.array ty).toString = some cy)
    (hK : va_K D cl tys s) (hP : va_P D cl (X ++ va_pl L f) H) (hD : va_D A (X ++ va_pl L f)) (hS : va_S A H0 H locs) (hA : ∀ q, H0.size ≤ q → A q) {n k : Int32} {N' K' : Nat} {z : vp_A} (hn : ¬ n < 0) (hk : ¬ k < 0) (hN : n.toNatClampNeg = N') (hM : k.toNatClampNeg = K')
    (hb1 : N' * 4 ≤ 536870912) (hb2 : K' * componentBytes ty ≤ 536870912) (hb3 : K' ≤ 536870912) (hdf : fits ty (defaultValue ty) = true) (hdd : (defaultValue ty).isDefault = true) (hcells : cells + (1 + N') ≤ R.cells) (hslots : slots + (N' + N' * K') ≤ R.slots) (hz : ∀ c : ClassId, Jvm.Free.Multi.innerC c K' (defaultValue ty) = vp_cell c z) (hdg : decode cc pc = .ok (.multianewarray index 2, 4))
    (kk : ∀ (q : Nat) (r : Nat → Nat) (cA : ClassId) (H1 : Heap), (∀ i j : Nat, i < N' → j < N' → r i = r j → i = j) → (∀ i : Nat, i < N' → r i ∉ L) → va_K D cl (tys ++ [(cA, .array ty)]) s →
      va_P D cl ((X ++ [(q, .inl (cA, N', .inr (.inr (.inr (.inr (fun i => if i < N' then some (r i) else none))))))]) ++ va_pl (L ++ (List.range N').map r) (vr_up f ((List.range N').map r) (.inl (cy, z)))) H1 → va_D A ((X ++ [(q, .inl (cA, N', .inr (.inr (.inr (.inr (fun i => if i < N' then some (r i) else none))))))]) ++ va_pl (L ++ (List.range N').map r) (vr_up f ((List.range N').map r) (.inl (cy, z)))) → va_S A H0 H1 locs →
      W p l e R s m args below meth c H1 locs (cells + 1 + N') (slots + N' + N' * K') Q (F0 m (pc + 4) ls (.ref q :: rest))) : W p l e R s m args below meth c H locs cells slots Q (F0 m pc ls (.int k :: .int n :: rest)) := by
  subst hN
  subst hM
  intro T hT Xs
  obtain ⟨vm₁, cA, comp, -, fA, fC, hO, -, X', step⟩ := Xs.multianewarray2F hexec hown hclink (va_AOA.use hover) harr (g := F0 m pc ls (.int k :: .int n :: rest)) rfl (by rw [hb]; exact hdg) rfl hn hk hb1 hb2 hb3 hdf hdd hcells hslots
  have ec : some cy = some comp := hcy.symm.trans fC
  cases ec
  generalize hF : Jvm.Free.Multi.fill (T.setVm vm₁) cA cy n.toNatClampNeg k.toNatClampNeg (defaultValue ty) n.toNatClampNeg = F at X' step
  have hTh : (T.setVm vm₁).heap = H := hT
  obtain ⟨f1, f2, -, -⟩ := Jvm.Free.Multi.fill_facts (T.setVm vm₁) cA cy n.toNatClampNeg k.toNatClampNeg (defaultValue ty) n.toNatClampNeg
  rw [hF, hTh] at f1 f2
  have hold : ∀ x : Nat, x < H.size → F.heap[x]? = H[x]? := fun x hx => by
    have := Jvm.Free.Multi.fill_old (T.setVm vm₁) cA cy n.toNatClampNeg k.toNatClampNeg (defaultValue ty) (a := x) (by rw [hTh]; exact hx) n.toNatClampNeg
    rw [hF, hTh] at this
    exact this
  have hrow : ∀ j : Nat, j < n.toNatClampNeg → F.heap[H.size + 1 + j]? = some (vp_cell cy z) := fun j hj => by
    have := Jvm.Free.Multi.fill_inner (T.setVm vm₁) cA cy n.toNatClampNeg k.toNatClampNeg (defaultValue ty) n.toNatClampNeg j hj
    rw [hF, hTh, hz] at this
    exact this
  have hout : Jvm.Free.Multi.outerC cA n.toNatClampNeg H.size n.toNatClampNeg = vp_cell cA (n.toNatClampNeg, .inr (.inr (.inr (.inr (fun i => if i < n.toNatClampNeg then some (H.size + 1 + i) else none))))) := by
    rw [vp_cell_q]
    exact vr_outer cA n.toNatClampNeg H.size n.toNatClampNeg
  rw [hout] at f2
  have hlt : ∀ a, a ∈ L → a < H.size := fun a ha => by
    obtain ⟨k9, hk9⟩ := va_pl_get (X := X) (f := f) ha
    exact (hP k9 _ hk9).lt
  have hnl : ∀ i : Nat, i < n.toNatClampNeg → H.size + 1 + i ∉ L := fun i _ h => by
    have := hlt _ h
    omega
  have hnm : ∀ a, a ∈ (List.range n.toNatClampNeg).map (fun i => H.size + 1 + i) → a ∉ L := fun a ha h => by
    obtain ⟨i, -, rfl⟩ := List.mem_map.mp ha
    have := hlt _ h
    omega
  have hP0 : va_P D cl (X ++ va_pl L f) F.heap := hP.kept (fun k9 x hx => hold x.1 ((hP k9 x hx).lt))
  have hP1 : va_P D cl ((X ++ va_pl L f) ++ [(H.size, .inl (cA, n.toNatClampNeg, .inr (.inr (.inr (.inr (fun i => if i < n.toNatClampNeg then some (H.size + 1 + i) else none))))))]) F.heap := hP0.app (fun k9 x hx => by
    have h0 : k9 < 1 := (List.getElem?_eq_some_iff.mp hx).1
    rw [show k9 = 0 by omega] at hx
    cases hx
    exact f2)
  have hP2 : va_P D cl (((X ++ va_pl L f) ++ [(H.size, .inl (cA, n.toNatClampNeg, .inr (.inr (.inr (.inr (fun i => if i < n.toNatClampNeg then some (H.size + 1 + i) else none))))))]) ++ ((List.range n.toNatClampNeg).map (fun i => H.size + 1 + i)).map (fun a => (a, .inl (cy, z)))) F.heap := hP1.app (fun k9 x hx => by
    obtain ⟨a, ha, rfl⟩ := List.mem_map.mp (List.mem_of_getElem? hx)
    obtain ⟨i, hi, rfl⟩ := List.mem_map.mp ha
    exact hrow i (List.mem_range.mp hi))
  have hD2 : va_D A (((X ++ va_pl L f) ++ [(H.size, .inl (cA, n.toNatClampNeg, .inr (.inr (.inr (.inr (fun i => if i < n.toNatClampNeg then some (H.size + 1 + i) else none))))))]) ++ ((List.range n.toNatClampNeg).map (fun i => H.size + 1 + i)).map (fun a => (a, .inl (cy, z)))) := by
    have hD1 := hD.push (e := .inl (cA, n.toNatClampNeg, .inr (.inr (.inr (.inr (fun i => if i < n.toNatClampNeg then some (H.size + 1 + i) else none)))))) hP rfl (hA _ hS.1)
    generalize hW1 : (X ++ va_pl L f) ++ [(H.size, .inl (cA, n.toNatClampNeg, .inr (.inr (.inr (.inr (fun i => if i < n.toNatClampNeg then some (H.size + 1 + i) else none))))))] = W1 at hD1 hP1 ⊢
    have hle : ∀ (k9 : Nat) (x : Nat × va_E), W1[k9]? = some x → x.1 ≤ H.size := fun k9 x hx => by
      rw [← hW1] at hx
      by_cases hl : k9 < (X ++ va_pl L f).length
      · rw [List.getElem?_append_left hl] at hx
        exact Nat.le_of_lt ((hP k9 x hx).lt)
      · rw [List.getElem?_append_right (by omega)] at hx
        have h0 : k9 - (X ++ va_pl L f).length < 1 := (List.getElem?_eq_some_iff.mp hx).1
        rw [show k9 - (X ++ va_pl L f).length = 0 by omega] at hx
        cases hx
        exact Nat.le_refl _
    have hr : ∀ (k9 : Nat) (x : Nat × va_E), (((List.range n.toNatClampNeg).map (fun i => H.size + 1 + i)).map (fun a => ((a, .inl (cy, z)) : Nat × va_E)))[k9]? = some x → x.1 = H.size + 1 + k9 := fun k9 x hx => by
      rw [List.getElem?_map, List.getElem?_map] at hx
      by_cases h9 : k9 < n.toNatClampNeg
      · rw [List.getElem?_range h9] at hx
        cases hx
        rfl
      · have hn0 : (List.range n.toNatClampNeg)[k9]? = none := List.getElem?_eq_none (by rw [List.length_range]; omega)
        rw [hn0] at hx
        cases hx
    refine ⟨fun i j x y hi hj hxy => ?_, fun k9 x hx => ?_⟩
    · by_cases h1 : i < W1.length <;> by_cases h2 : j < W1.length
      · rw [List.getElem?_append_left h1] at hi
        rw [List.getElem?_append_left h2] at hj
        exact hD1.1 i j x y hi hj hxy
      · rw [List.getElem?_append_left h1] at hi
        rw [List.getElem?_append_right (by omega)] at hj
        have := hle _ _ hi
        have := hr _ _ hj
        omega
      · rw [List.getElem?_append_right (by omega)] at hi
        rw [List.getElem?_append_left h2] at hj
        have := hle _ _ hj
        have := hr _ _ hi
        omega
      · rw [List.getElem?_append_right (by omega)] at hi hj
        have := hr _ _ hi
        have := hr _ _ hj
        omega
    · by_cases h1 : k9 < W1.length
      · rw [List.getElem?_append_left h1] at hx
        exact hD1.2 k9 x hx
      · rw [List.getElem?_append_right (by omega)] at hx
        have := hr _ _ hx
        exact hA _ (by have := hS.1; omega)
  have hAr : ArrOfT s cA (.array ty) := fun N9 z9 => by
    obtain ⟨-, k9, hk9, cm9, hkk9⟩ := (hO 0 0 0).1
    exact ⟨(fun q hq => by cases hq), k9, hk9, cm9, hkk9⟩
  have hK2 : va_K D cl (tys ++ [(cA, .array ty)]) s := ⟨hK.1, fun k9 x hx => by
    by_cases hl : k9 < tys.length
    · rw [List.getElem?_append_left hl] at hx
      exact hK.2 k9 x hx
    · rw [List.getElem?_append_right (by omega)] at hx
      have h0 : k9 - tys.length < 1 := (List.getElem?_eq_some_iff.mp hx).1
      rw [show k9 - tys.length = 0 by omega] at hx
      cases hx
      exact ⟨hAr, fA⟩⟩
  obtain ⟨t, a1, b1⟩ := kk H.size (fun i => H.size + 1 + i) cA F.heap (fun i j _ _ h => by have h9 : H.size + 1 + i = H.size + 1 + j := h; omega) hnl hK2 (by rw [← vr_rows hnm]; exact vr_lay hP2) (by rw [← vr_rows hnm]; exact vr_layD hD2) ⟨by rw [f1]; have := hS.1; omega, fun x h1 h2 => (hold x (Nat.lt_of_lt_of_le h1 hS.1)).trans (hS.2.1 x h1 h2), hS.2.2⟩ F rfl X'
  refine ⟨t, step t ?_, b1⟩
  have e : T.heap.size = H.size := by rw [hT]
  rw [e]
  exact a1
end VGM
/-! ===== END ===== -/

/-! ===== BEGIN printed: names, fields, word lists, decode rows ===== -/
def RX0 : String := "BasketHouse"
def TX0 : u_T := fun k => match k with
  | 0 => ("BasketHouse", "today", "I", false)
  | 1 => ("BasketHouse", "settings", "[I", true)
  | 2 => ("BasketHouse", "things", "I", false)
  | 3 => ("BasketHouse", "stocked", "I", false)
  | 4 => ("BasketHouse", "cameOn", "[I", true)
  | 5 => ("BasketHouse", "sortSets", "[I", true)
  | 6 => ("BasketHouse", "foes", "[I", true)
  | 7 => ("BasketHouse", "baskets", "I", false)
  | 8 => ("BasketHouse", "owners", "[I", true)
  | 9 => ("BasketHouse", "boughtOn", "[I", true)
  | 10 => ("BasketHouse", "contents", "[I", true)
  | 11 => ("BasketHouse", "showings", "[I", true)
  | 12 => ("BasketHouse", "timesShown", "[[I", true)
  | 13 => ("BasketHouse", "tiredUntil", "[[I", true)
  | _ => ("BasketHouse", "points", "[I", true)
def tyX0 : Nat → FieldType := fun k => match k with
  | 0 => .int
  | 1 => .array .int
  | 2 => .int
  | 3 => .int
  | 4 => .array .int
  | 5 => .array .int
  | 6 => .array .int
  | 7 => .int
  | 8 => .array .int
  | 9 => .array .int
  | 10 => .array .int
  | 11 => .array .int
  | 12 => .array (.array .int)
  | 13 => .array (.array .int)
  | _ => .array .int
abbrev wsX00 : List Cond := u_ws RX0 TX0 15
theorem nmX0 : ∀ a, a < 15 → ∀ b, b < 15 → a ≠ b → (TX0 a).2.1 ≠ (TX0 b).2.1 := by decide +kernel
theorem tyX0_ok : ∀ k, k < 15 → parseFieldDescriptor (TX0 k).2.2.1 = some (tyX0 k) := by decide +kernel
abbrev cX0_init : ByteArray := prog_1_method_1_code
def yX0_init : MethodName := ⟨RX0, "<init>", "()V"⟩
abbrev cX0_thing : ByteArray := prog_1_method_2_code
def yX0_thing : MethodName := ⟨RX0, "thing", "(I)I"⟩
abbrev cX0_stock : ByteArray := prog_1_method_3_code
def yX0_stock : MethodName := ⟨RX0, "stock", "(IZ)Z"⟩
abbrev cX0_set : ByteArray := prog_1_method_4_code
def yX0_set : MethodName := ⟨RX0, "set", "(II)Z"⟩
abbrev cX0_apart : ByteArray := prog_1_method_5_code
def yX0_apart : MethodName := ⟨RX0, "apart", "(IIZ)Z"⟩
abbrev cX0_basket : ByteArray := prog_1_method_6_code
def yX0_basket : MethodName := ⟨RX0, "basket", "(II)I"⟩
abbrev cX0_drop : ByteArray := prog_1_method_7_code
def yX0_drop : MethodName := ⟨RX0, "drop", "(I)Z"⟩
abbrev cX0_forget : ByteArray := prog_1_method_8_code
def yX0_forget : MethodName := ⟨RX0, "forget", "(I)I"⟩
abbrev cX0_day : ByteArray := prog_1_method_9_code
def yX0_day : MethodName := ⟨RX0, "day", "()I"⟩
abbrev cX0_look : ByteArray := prog_1_method_10_code
def yX0_look : MethodName := ⟨RX0, "look", "(I)I"⟩
abbrev cX0_of : ByteArray := prog_1_method_11_code
def yX0_of : MethodName := ⟨RX0, "of", "(II)I"⟩
abbrev cX0_count : ByteArray := prog_1_method_12_code
def yX0_count : MethodName := ⟨RX0, "count", "(III)I"⟩
abbrev cX0_kin : ByteArray := prog_1_method_13_code
def yX0_kin : MethodName := ⟨RX0, "kin", "(II)I"⟩
abbrev cX0_near : ByteArray := prog_1_method_14_code
def yX0_near : MethodName := ⟨RX0, "near", "(II)I"⟩
abbrev cX0_taken : ByteArray := prog_1_method_15_code
def yX0_taken : MethodName := ⟨RX0, "taken", "(I)I"⟩
abbrev cX0_score : ByteArray := prog_1_method_16_code
def yX0_score : MethodName := ⟨RX0, "score", "(II)I"⟩
abbrev cX0_may : ByteArray := prog_1_method_17_code
def yX0_may : MethodName := ⟨RX0, "may", "(I)I"⟩
abbrev cX0_list : ByteArray := prog_1_method_18_code
def yX0_list : MethodName := ⟨RX0, "list", "(III)I"⟩
abbrev cX0_show : ByteArray := prog_1_method_19_code
def yX0_show : MethodName := ⟨RX0, "show", "(II)I"⟩
abbrev cX0_shown : ByteArray := prog_1_method_20_code
def yX0_shown : MethodName := ⟨RX0, "shown", "(III)I"⟩
abbrev cX0_why : ByteArray := prog_1_method_21_code
def yX0_why : MethodName := ⟨RX0, "why", "(III)I"⟩
abbrev cX0_isThing : ByteArray := prog_1_method_22_code
def yX0_isThing : MethodName := ⟨RX0, "isThing", "(I)Z"⟩
abbrev cX0_areTwoThings : ByteArray := prog_1_method_23_code
def yX0_areTwoThings : MethodName := ⟨RX0, "areTwoThings", "(II)Z"⟩
abbrev cX0_isSetOfThings : ByteArray := prog_1_method_24_code
def yX0_isSetOfThings : MethodName := ⟨RX0, "isSetOfThings", "(I)Z"⟩
abbrev cX0_isBasket : ByteArray := prog_1_method_25_code
def yX0_isBasket : MethodName := ⟨RX0, "isBasket", "(I)Z"⟩
abbrev cX0_canList : ByteArray := prog_1_method_26_code
def yX0_canList : MethodName := ⟨RX0, "canList", "(II)Z"⟩
abbrev cX0_isPerson : ByteArray := prog_1_method_27_code
def yX0_isPerson : MethodName := ⟨RX0, "isPerson", "(I)Z"⟩
abbrev cX0_has : ByteArray := prog_1_method_28_code
def yX0_has : MethodName := ⟨RX0, "has", "(II)Z"⟩
abbrev cX0_allThings : ByteArray := prog_1_method_29_code
def yX0_allThings : MethodName := ⟨RX0, "allThings", "()I"⟩
abbrev cX0_newThings : ByteArray := prog_1_method_30_code
def yX0_newThings : MethodName := ⟨RX0, "newThings", "()I"⟩
abbrev cX0_removeBasket : ByteArray := prog_1_method_31_code
def yX0_removeBasket : MethodName := ⟨RX0, "removeBasket", "(I)V"⟩
abbrev cX0_removeOldBaskets : ByteArray := prog_1_method_32_code
def yX0_removeOldBaskets : MethodName := ⟨RX0, "removeOldBaskets", "()V"⟩
abbrev cX0_basketsWith : ByteArray := prog_1_method_33_code
def yX0_basketsWith : MethodName := ⟨RX0, "basketsWith", "(II)I"⟩
abbrev cX0_peopleWith : ByteArray := prog_1_method_34_code
def yX0_peopleWith : MethodName := ⟨RX0, "peopleWith", "(II)I"⟩
abbrev cX0_kinOf : ByteArray := prog_1_method_35_code
def yX0_kinOf : MethodName := ⟨RX0, "kinOf", "(II)I"⟩
abbrev cX0_takenBy : ByteArray := prog_1_method_36_code
def yX0_takenBy : MethodName := ⟨RX0, "takenBy", "(I)I"⟩
abbrev cX0_scoreOf : ByteArray := prog_1_method_37_code
def yX0_scoreOf : MethodName := ⟨RX0, "scoreOf", "(II)I"⟩
abbrev cX0_writeKin : ByteArray := prog_1_method_38_code
def yX0_writeKin : MethodName := ⟨RX0, "writeKin", "(II)V"⟩
abbrev cX0_writeScores : ByteArray := prog_1_method_39_code
def yX0_writeScores : MethodName := ⟨RX0, "writeScores", "(II)V"⟩
abbrev cX0_bestByPoints : ByteArray := prog_1_method_40_code
def yX0_bestByPoints : MethodName := ⟨RX0, "bestByPoints", "(I)I"⟩
abbrev cX0_sumOfPoints : ByteArray := prog_1_method_41_code
def yX0_sumOfPoints : MethodName := ⟨RX0, "sumOfPoints", "(I)I"⟩
abbrev cX0_mayPutUp : ByteArray := prog_1_method_42_code
def yX0_mayPutUp : MethodName := ⟨RX0, "mayPutUp", "(I)I"⟩
abbrev cX0_isTurnOfNew : ByteArray := prog_1_method_43_code
def yX0_isTurnOfNew : MethodName := ⟨RX0, "isTurnOfNew", "(I)Z"⟩
abbrev cX0_keepsRules : ByteArray := prog_1_method_44_code
def yX0_keepsRules : MethodName := ⟨RX0, "keepsRules", "(I)Z"⟩
abbrev cX0_bestList : ByteArray := prog_1_method_45_code
def yX0_bestList : MethodName := ⟨RX0, "bestList", "(II)I"⟩
abbrev cX0_daysTired : ByteArray := prog_1_method_46_code
def yX0_daysTired : MethodName := ⟨RX0, "daysTired", "(II)I"⟩
abbrev cX0_showOnce : ByteArray := prog_1_method_47_code
def yX0_showOnce : MethodName := ⟨RX0, "showOnce", "(II)V"⟩
abbrev cX0_clearShown : ByteArray := prog_1_method_48_code
def yX0_clearShown : MethodName := ⟨RX0, "clearShown", "(II)V"⟩
def RX1 : String := "BasketHouseModel"
def TX1 : u_T := fun k => match k with
  | 0 => ("BasketHouseModel", "things", "I", false)
  | 1 => ("BasketHouseModel", "day", "I", false)
  | 2 => ("BasketHouseModel", "baskets", "I", false)
  | 3 => ("BasketHouseModel", "group", "I", false)
  | 4 => ("BasketHouseModel", "spread", "I", false)
  | 5 => ("BasketHouseModel", "share", "I", false)
  | 6 => ("BasketHouseModel", "limit", "I", false)
  | 7 => ("BasketHouseModel", "inStock", "I", false)
  | 8 => ("BasketHouseModel", "sort", "[I", true)
  | 9 => ("BasketHouseModel", "came", "[I", true)
  | 10 => ("BasketHouseModel", "rule", "[I", true)
  | 11 => ("BasketHouseModel", "person", "[I", true)
  | 12 => ("BasketHouseModel", "dayOf", "[I", true)
  | 13 => ("BasketHouseModel", "setOf", "[I", true)
  | 14 => ("BasketHouseModel", "showings", "[I", true)
  | 15 => ("BasketHouseModel", "shown", "[I", true)
  | 16 => ("BasketHouseModel", "tiredTo", "[I", true)
  | 17 => ("BasketHouseModel", "worth", "[I", true)
  | 18 => ("BasketHouseModel", "best", "I", false)
  | _ => ("BasketHouseModel", "bestSum", "I", false)
def tyX1 : Nat → FieldType := fun k => match k with
  | 0 => .int
  | 1 => .int
  | 2 => .int
  | 3 => .int
  | 4 => .int
  | 5 => .int
  | 6 => .int
  | 7 => .int
  | 8 => .array .int
  | 9 => .array .int
  | 10 => .array .int
  | 11 => .array .int
  | 12 => .array .int
  | 13 => .array .int
  | 14 => .array .int
  | 15 => .array .int
  | 16 => .array .int
  | 17 => .array .int
  | 18 => .int
  | _ => .int
abbrev wsX10 : List Cond := u_ws RX1 TX1 20
theorem nmX1 : ∀ a, a < 20 → ∀ b, b < 20 → a ≠ b → (TX1 a).2.1 ≠ (TX1 b).2.1 := by decide +kernel
theorem tyX1_ok : ∀ k, k < 20 → parseFieldDescriptor (TX1 k).2.2.1 = some (tyX1 k) := by decide +kernel
abbrev cX1_init : ByteArray := prog_3_method_1_code
def yX1_init : MethodName := ⟨RX1, "<init>", "()V"⟩
abbrev cX1_isIn : ByteArray := prog_3_method_2_code
def yX1_isIn : MethodName := ⟨RX1, "isIn", "(III)Z"⟩
abbrev cX1_isThing : ByteArray := prog_3_method_3_code
def yX1_isThing : MethodName := ⟨RX1, "isThing", "(I)Z"⟩
abbrev cX1_isPerson : ByteArray := prog_3_method_4_code
def yX1_isPerson : MethodName := ⟨RX1, "isPerson", "(I)Z"⟩
abbrev cX1_thing : ByteArray := prog_3_method_5_code
def yX1_thing : MethodName := ⟨RX1, "thing", "(I)I"⟩
abbrev cX1_stock : ByteArray := prog_3_method_6_code
def yX1_stock : MethodName := ⟨RX1, "stock", "(IZ)Z"⟩
abbrev cX1_set : ByteArray := prog_3_method_7_code
def yX1_set : MethodName := ⟨RX1, "set", "(II)Z"⟩
abbrev cX1_apart : ByteArray := prog_3_method_8_code
def yX1_apart : MethodName := ⟨RX1, "apart", "(IIZ)Z"⟩
abbrev cX1_basket : ByteArray := prog_3_method_9_code
def yX1_basket : MethodName := ⟨RX1, "basket", "(II)I"⟩
abbrev cX1_goes : ByteArray := prog_3_method_10_code
def yX1_goes : MethodName := ⟨RX1, "goes", "(I)V"⟩
abbrev cX1_drop : ByteArray := prog_3_method_11_code
def yX1_drop : MethodName := ⟨RX1, "drop", "(I)Z"⟩
abbrev cX1_forget : ByteArray := prog_3_method_12_code
def yX1_forget : MethodName := ⟨RX1, "forget", "(I)I"⟩
abbrev cX1_day : ByteArray := prog_3_method_13_code
def yX1_day : MethodName := ⟨RX1, "day", "()I"⟩
abbrev cX1_news : ByteArray := prog_3_method_14_code
def yX1_news : MethodName := ⟨RX1, "news", "()I"⟩
abbrev cX1_look : ByteArray := prog_3_method_15_code
def yX1_look : MethodName := ⟨RX1, "look", "(I)I"⟩
abbrev cX1_of : ByteArray := prog_3_method_16_code
def yX1_of : MethodName := ⟨RX1, "of", "(II)I"⟩
abbrev cX1_both : ByteArray := prog_3_method_17_code
def yX1_both : MethodName := ⟨RX1, "both", "(II)I"⟩
abbrev cX1_people : ByteArray := prog_3_method_18_code
def yX1_people : MethodName := ⟨RX1, "people", "(II)I"⟩
abbrev cX1_count : ByteArray := prog_3_method_19_code
def yX1_count : MethodName := ⟨RX1, "count", "(III)I"⟩
abbrev cX1_kinOf : ByteArray := prog_3_method_20_code
def yX1_kinOf : MethodName := ⟨RX1, "kinOf", "(II)I"⟩
abbrev cX1_kin : ByteArray := prog_3_method_21_code
def yX1_kin : MethodName := ⟨RX1, "kin", "(II)I"⟩
abbrev cX1_near : ByteArray := prog_3_method_22_code
def yX1_near : MethodName := ⟨RX1, "near", "(II)I"⟩
abbrev cX1_takenBy : ByteArray := prog_3_method_23_code
def yX1_takenBy : MethodName := ⟨RX1, "takenBy", "(I)I"⟩
abbrev cX1_taken : ByteArray := prog_3_method_24_code
def yX1_taken : MethodName := ⟨RX1, "taken", "(I)I"⟩
abbrev cX1_scoreOf : ByteArray := prog_3_method_25_code
def yX1_scoreOf : MethodName := ⟨RX1, "scoreOf", "(II)I"⟩
abbrev cX1_score : ByteArray := prog_3_method_26_code
def yX1_score : MethodName := ⟨RX1, "score", "(II)I"⟩
abbrev cX1_mayFor : ByteArray := prog_3_method_27_code
def yX1_mayFor : MethodName := ⟨RX1, "mayFor", "(I)I"⟩
abbrev cX1_may : ByteArray := prog_3_method_28_code
def yX1_may : MethodName := ⟨RX1, "may", "(I)I"⟩
abbrev cX1_bits : ByteArray := prog_3_method_29_code
def yX1_bits : MethodName := ⟨RX1, "bits", "(I)I"⟩
abbrev cX1_keeps : ByteArray := prog_3_method_30_code
def yX1_keeps : MethodName := ⟨RX1, "keeps", "(I)Z"⟩
abbrev cX1_lists : ByteArray := prog_3_method_31_code
def yX1_lists : MethodName := ⟨RX1, "lists", "(II)Z"⟩
abbrev cX1_list : ByteArray := prog_3_method_32_code
def yX1_list : MethodName := ⟨RX1, "list", "(III)I"⟩
abbrev cX1_show : ByteArray := prog_3_method_33_code
def yX1_show : MethodName := ⟨RX1, "show", "(II)I"⟩
abbrev cX1_shown : ByteArray := prog_3_method_34_code
def yX1_shown : MethodName := ⟨RX1, "shown", "(III)I"⟩
abbrev cX1_why : ByteArray := prog_3_method_35_code
def yX1_why : MethodName := ⟨RX1, "why", "(III)I"⟩
def RJx8e188 : String := "java/lang/Cloneable"
def TJx8e188 : u_T := fun k => match k with
  | _ => ("", "", "", false)
def tyJx8e188 : Nat → FieldType := fun k => match k with
  | _ => .int
abbrev wsJx8e1880 : List Cond := u_ws RJx8e188 TJx8e188 0
theorem nmJx8e188 : ∀ a, a < 0 → ∀ b, b < 0 → a ≠ b → (TJx8e188 a).2.1 ≠ (TJx8e188 b).2.1 := by decide +kernel
theorem tyJx8e188_ok : ∀ k, k < 0 → parseFieldDescriptor (TJx8e188 k).2.2.1 = some (tyJx8e188 k) := by decide +kernel
def RJ6 : String := "java/lang/Integer"
def TJ6 : u_T := fun k => match k with
  | _ => ("", "", "", false)
def tyJ6 : Nat → FieldType := fun k => match k with
  | _ => .int
abbrev wsJ60 : List Cond := u_ws RJ6 TJ6 0
theorem nmJ6 : ∀ a, a < 0 → ∀ b, b < 0 → a ≠ b → (TJ6 a).2.1 ≠ (TJ6 b).2.1 := by decide +kernel
theorem tyJ6_ok : ∀ k, k < 0 → parseFieldDescriptor (TJ6 k).2.2.1 = some (tyJ6 k) := by decide +kernel
abbrev cJ6_bitCount_0f7a4 : ByteArray := prog_5_method_49_code
def yJ6_bitCount_0f7a4 : MethodName := ⟨RJ6, "bitCount", "(I)I"⟩
def RJ9 : String := "java/lang/Math"
def TJ9 : u_T := fun k => match k with
  | _ => ("", "", "", false)
def tyJ9 : Nat → FieldType := fun k => match k with
  | _ => .int
abbrev wsJ90 : List Cond := u_ws RJ9 TJ9 0
theorem nmJ9 : ∀ a, a < 0 → ∀ b, b < 0 → a ≠ b → (TJ9 a).2.1 ≠ (TJ9 b).2.1 := by decide +kernel
theorem tyJ9_ok : ∀ k, k < 0 → parseFieldDescriptor (TJ9 k).2.2.1 = some (tyJ9 k) := by decide +kernel
abbrev cJ9_max_7cf53 : ByteArray := prog_6_method_65_code
def yJ9_max_7cf53 : MethodName := ⟨RJ9, "max", "(II)I"⟩
def RL : String := "BasketHouseLaw"
abbrev cL_law : ByteArray := code
def yL_law : MethodName := ⟨RL, "law", "([I)Z"⟩
