section PRT
variable {D : va_G} {cl : List vw_C} {A : Nat → Prop} {u v : va_W} {H : Heap}
theorem prt_Pr (h : va_P D cl (u ++ v) H) : va_P D cl v H := fun k q hk => h (u.length + k) q (by rw [List.getElem?_append_right (by omega), show u.length + k - u.length = k by omega]; exact hk)
theorem prt_Pl (h : va_P D cl (u ++ v) H) : va_P D cl u H := fun k q hk => h k q (by rw [List.getElem?_append_left (List.getElem?_eq_some_iff.mp hk).1]; exact hk)
theorem prt_Dr (h : va_D A (u ++ v)) : va_D A v := ⟨fun i j p q hi hj e => by
    have := h.1 (u.length + i) (u.length + j) p q (by rw [List.getElem?_append_right (by omega), show u.length + i - u.length = i by omega]; exact hi) (by rw [List.getElem?_append_right (by omega), show u.length + j - u.length = j by omega]; exact hj) e
    omega, fun k q hk => h.2 (u.length + k) q (by rw [List.getElem?_append_right (by omega), show u.length + k - u.length = k by omega]; exact hk)⟩
theorem prt_ne (h : va_D A (u ++ v)) {i j : Nat} {p q : Nat × va_E} (hi : u[i]? = some p) (hj : v[j]? = some q) : p.1 ≠ q.1 := fun e => by
  have hl := (List.getElem?_eq_some_iff.mp hi).1
  have := h.1 i (u.length + j) p q (by rw [List.getElem?_append_left hl]; exact hi) (by rw [List.getElem?_append_right (by omega), show u.length + j - u.length = j by omega]; exact hj) e
  omega
end PRT
set_option maxHeartbeats 8000000 in
set_option maxRecDepth 100000 in
/-- THE LAW, from its entry, wherever the row of the first settings is of the class called [I -/
theorem whole_start_if {p : Program} {e : Env} {s : State} {m : MethodId} {below : List Frame} {meth : Method} {c : Code} (l : Launch) {b L : Nat} {xs : Nat → Int32} (hL : L ≤ 2048) (C0 : lw_At p s m meth c b L xs) (hEx : fsEx.before #[Value.ref b] s = true) : W p l e room_1 s m #[Value.ref b] below meth c s.heap [] 0 0 (lw_Z below #[Value.ref b] s) (entryFrame m ([Value.ref b] : List Value).toArray 4) := by
  obtain ⟨hx, hb, hr, hml, hown, hts, hX, hbl, hlocks, hgv⟩ := id C0
  have hA : ∀ q : Nat, s.heap.size ≤ q → (fun q : Nat => s.heap.size ≤ q) q := fun _ h => h
  have hA2 : ∀ q : Nat, q < s.heap.size → ¬ (fun q : Nat => s.heap.size ≤ q) q := fun _ h => Nat.not_le.mpr h
  have hbA : ¬ (fun q : Nat => s.heap.size ≤ q) b := Nat.not_le.mpr hbl
  have hg : ∀ w ∈ gW, w.before #[Value.ref b] s = true := fun w hw => hts w (List.mem_filter.mp hw).1
  obtain ⟨D, cA, cB, hK⟩ := st_K hts
  have hgz := st_gs hts hgv hA2
  have hfz := st_fs hts hgv hA2 (va_nm_int (hK.2 0 _ rfl).2) hEx
  have hover : va_AOA .int s := hts (.arrayOver (.array .int)) (by decide +kernel)
  have hcas : va_Nw (.castable "[I" "java/lang/Cloneable") s := va_Nw.of rfl (hts (.castable "[I" "java/lang/Cloneable") (by decide +kernel))
  generalize hAe : (fun q : Nat => s.heap.size ≤ q) = A at hA hA2 hbA hgz hfz
  have hS : va_S A s.heap s.heap [] := va_S.rf
  have hP : va_P D vwC [] s.heap := fun k q h => by simp at h
  have hD : va_D A [] := ⟨fun i j p q h => by simp at h, fun k q h => by simp at h⟩
  have hl := lv_entry ([.ref b]) (n := 4) (Nat.le_of_ble_eq_true rfl)
  rw [lg_entry_eq]
  generalize (lg_sl ([.ref b]) ++ List.replicate (4 - (lg_sl ([.ref b])).length) Slot.unset).toArray = ls at hl ⊢
  have hl : lv_has ls 4 [(0, .ref b)] := hl
  refine va_new (ci := 0) (fs := [.int 0, .null, .int 0, .int 0, .null, .null, .null, .int 0, .null, .null, .null, .null, .null, .null, .null]) (C := RX0) (T := TX0) (N := 15) hx hb hg usX0 tyX0 tyX0_ok hown (hg (.classLink RL 7 RX0) (by decide +kernel)) (hg (.instantiable RX0 15) (by decide +kernel)) (hg (.initialized RX0) (by decide +kernel)) hK hP hD hS hA rfl (by decide +kernel) (Nat.le_of_ble_eq_true rfl) (Nat.le_of_ble_eq_true rfl) dL_law_0 (fun q0 H hP hD hS => ?_)
  have hP : va_P D vwC [(q0, .inr (0, [.int 0, .null, .int 0, .int 0, .null, .null, .null, .int 0, .null, .null, .null, .null, .null, .null, .null]))] H := hP
  have hD : va_D A [(q0, .inr (0, [.int 0, .null, .int 0, .int 0, .null, .null, .null, .int 0, .null, .null, .null, .null, .null, .null, .null]))] := hD
  refine lv_dup hx hb dL_law_3 rfl ?_
  have hF := va_free (wc := [(q0, .inr (0, [.int 0, .null, .int 0, .int 0, .null, .null, .null, .int 0, .null, .null, .null, .null, .null, .null, .null]))]) hD hS hA [0] rfl
  refine va_callv (va_runI (Ts := gW) (own := RL) (index := 9) (n := 0) (bytes := cX0_init) (maxL := 1) (cc := cL_law) (nL := 4) (b := q0) (As := []) (rest := [.ref q0]) ⟨hx, hb, hml, hown, hg⟩ (ctX0_init l D cA cB q0 H.size) ⟨callB_of 0 hg (gW_cons (by decide +kernel)) rfl rfl rfl (hg (.initialized RX0) (by decide +kernel)) (hg (.methodLink RL 9 yX0_init) (by decide +kernel)) (by decide +kernel) ⟨Nat.le_of_ble_eq_true rfl, Nat.le_of_ble_eq_true rfl⟩, rfl, hg (.instanceMethod yX0_init) (by decide +kernel)⟩
    ⟨fun a U g mk q => by
      obtain ⟨z0, ⟨z1, zP, zK, zD⟩, zf, zo, zc⟩ := q
      exact ⟨z0, ⟨z1, zP, va_K.moved (u := U) (U := U.calling g mk a) (Vm.Alike.refl U.vm) zK, zD⟩, fsZ_moved (u := U) (U := U.calling g mk a) (Vm.Alike.refl U.vm) rfl zf, va_AOA.moved (u := U) (U := U.calling g mk a) (Vm.Alike.refl U.vm) zo, va_Nw.same (u := U) (U := U.calling g mk a) rfl rfl zc⟩,
     fun U hU hW => ⟨rfl, ⟨by rw [hU], by rw [hU]; exact hP, va_K.moved hW.alike hK, hD.weaken (fun _ _ _ _ => trivial)⟩, fsZ_call hfz hS hF hW.alike hU, va_AOA.moved hW.alike hover, va_Nw.warmC hW hcas⟩⟩
    rfl rfl hl.1 rfl (lv_room (Nat.le_of_ble_eq_true rfl)) dL_law_4 ⟨Nat.le_of_ble_eq_true rfl, Nat.le_of_ble_eq_true rfl⟩) hS (fun q _ h => hF q h) hF (fun adc t H1 locs ht hvm hw hB hz1 hk1 hS1 => ?_)
  obtain ⟨hP1, -, hD1⟩ := hB
  rw [ht] at hP1
  have hD1 := hD1.weaken (B := A) (fun _ _ _ h => hF _ h)
  refine lv_astore_n (lv' := [(1, .ref q0), (0, .ref b)]) hx hb dL_law_7 rfl hl (by decide) rfl (fun ls hl => ?_)
  refine va_new (ci := 1) (fs := [.int 0, .int 0, .int 0, .int 0, .int 0, .int 0, .int 0, .int 0, .null, .null, .null, .null, .null, .null, .null, .null, .null, .null, .int 0, .int 0]) (C := RX1) (T := TX1) (N := 20) hx hb hg usX1 tyX1 tyX1_ok hown (hg (.classLink RL 10 RX1) (by decide +kernel)) (hg (.instantiable RX1 20) (by decide +kernel)) (hg (.initialized RX1) (by decide +kernel)) hK hP1 hD1 hS1 hA rfl (by decide +kernel) (Nat.le_of_ble_eq_true rfl) (Nat.le_of_ble_eq_true rfl) dL_law_8 (fun q1 H2 hP2 hD2 hS2 => ?_)
  refine lv_dup hx hb dL_law_11 rfl ?_
  have hPc := prt_Pl hP2
  have hPn : va_P D vwC [(q1, .inr (1, [.int 0, .int 0, .int 0, .int 0, .int 0, .int 0, .int 0, .int 0, .null, .null, .null, .null, .null, .null, .null, .null, .null, .null, .int 0, .int 0]))] H2 := prt_Pr hP2
  have hDn : va_D A [(q1, .inr (1, [.int 0, .int 0, .int 0, .int 0, .int 0, .int 0, .int 0, .int 0, .null, .null, .null, .null, .null, .null, .null, .null, .null, .null, .int 0, .int 0]))] := prt_Dr hD2
  have hF2 := va_free (wc := [(q1, .inr (1, [.int 0, .int 0, .int 0, .int 0, .int 0, .int 0, .int 0, .int 0, .null, .null, .null, .null, .null, .null, .null, .null, .null, .null, .int 0, .int 0]))]) hDn hS2 hA [0] rfl
  refine va_callv (va_runI (Ts := gW) (own := RL) (index := 12) (n := 0) (bytes := cX1_init) (maxL := 1) (cc := cL_law) (nL := 4) (b := q1) (As := []) (rest := [.ref q1]) ⟨hx, hb, hml, hown, hg⟩ (ctX1_init l D cA cB q1 H2.size) ⟨callB_of 0 hg (gW_cons (by decide +kernel)) rfl rfl rfl (hg (.initialized RX1) (by decide +kernel)) (hg (.methodLink RL 12 yX1_init) (by decide +kernel)) (by decide +kernel) ⟨Nat.le_of_ble_eq_true rfl, Nat.le_of_ble_eq_true rfl⟩, rfl, hg (.instanceMethod yX1_init) (by decide +kernel)⟩
    ⟨fun a U g mk q => by
      obtain ⟨z0, z1, zP, zK, zD⟩ := q
      exact ⟨z0, z1, zP, va_K.moved (u := U) (U := U.calling g mk a) (Vm.Alike.refl U.vm) zK, zD⟩,
     fun U hU hW => ⟨rfl, by rw [hU], by rw [hU]; exact hPn, va_K.moved hW.alike hK, hDn.weaken (fun _ _ _ _ => trivial)⟩⟩
    rfl rfl hl.1 rfl (lv_room (Nat.le_of_ble_eq_true rfl)) dL_law_12 ⟨Nat.le_of_ble_eq_true rfl, Nat.le_of_ble_eq_true rfl⟩) hS2 (fun q _ h => hF2 q h) hF2 (fun adm t2 H3 locs3 ht2 hvm2 hw2 hB2 hz3 hk3 hS3 => ?_)
  obtain ⟨hP3, -, hD3⟩ := hB2
  rw [ht2] at hP3
  have hlt : ∀ (i : Nat) (x : Nat × va_E), (mWs hX0 0 15 cA cB adc c0S)[i]? = some x → x.1 < H2.size ∧ x.1 ≠ q1 := fun i x hx => ⟨(hPc i x hx).lt, prt_ne (j := 0) hD2 hx rfl⟩
  have hin : ∀ (k : Nat) (z : Nat × va_E), (mWs hX1 1 20 cA cB adm m0S)[k]? = some z → z.1 = q1 ∨ H2.size ≤ z.1 := fun k z hz => by
    rcases hD3.2 k z hz with ⟨i, e9, hi⟩ | h
    · left
      have h0 : i < 1 := (List.getElem?_eq_some_iff.mp hi).1
      rw [show i = 0 by omega] at hi
      cases hi
      rfl
    · exact Or.inr h
  have hdis : ∀ (σ μ : mS) (i k : Nat) (x z : Nat × va_E), (mWs hX0 0 15 cA cB adc σ)[i]? = some x → (mWs hX1 1 20 cA cB adm μ)[k]? = some z → x.1 ≠ z.1 := fun σ μ i k x z hx hz q => by
    obtain ⟨e1, h1⟩ := (mWs_at σ c0S).mp ⟨x.2, hx⟩
    obtain ⟨e2, h2⟩ := (mWs_at μ m0S).mp ⟨z.2, hz⟩
    have a1 := hlt i _ h1
    have a2 := hin k _ h2
    dsimp only at a1 a2
    rcases a2 with a2 | a2
    · exact a1.2 (q.trans a2)
    · have := a1.1
      omega
  have hPc3 : va_P D vwC (mWs hX0 0 15 cA cB adc c0S) H3 := hPc.kept (fun k x hx => hk3 x.1 (hlt k x hx).1 (fun q => by
    rcases q with ⟨i, e9, hi⟩ | h
    · have h0 : i < 1 := (List.getElem?_eq_some_iff.mp hi).1
      rw [show i = 0 by omega] at hi
      have e8 := congrArg (fun o : Option (Nat × va_E) => o.map (fun y => y.1)) hi
      exact (hlt k x hx).2 (Option.some.inj e8).symm
    · have := (hlt k x hx).1
      omega))
  have hD3 := hD3.weaken (B := A) (fun _ _ _ h => hF2 _ h)
  refine lv_astore_n (lv' := [(2, .ref q1), (1, .ref q0), (0, .ref b)]) hx hb dL_law_15 rfl hl (by decide) rfl (fun ls hl => ?_)
  refine lv_iconst (v := 0) hx hb dL_law_16 (by decide) ?_
  refine lv_istore_n (lv' := [(3, .int 0), (2, .ref q1), (1, .ref q0), (0, .ref b)]) hx hb dL_law_17 rfl hl (by decide) rfl (fun ls hl => ?_)
  refine W.widen (k := 600000) (n := 7302250) (Nat.le_of_ble_eq_true rfl) (Nat.le_of_ble_eq_true rfl) ?_
  have hl : lv_has ls 4 [(0, .ref b), (1, .ref (adc 0)), (2, .ref (adm 0)), (3, .int (nI 0))] := by
    rw [hw, hw2, nI_0]
    exact lv_sub hl [3, 2, 1, 0] rfl
  have X : lwC p room_1 s m #[Value.ref b] c D cA cB adc adm A b L xs 600000 7302250 := ⟨hx, hb, hml, hown, hg, hK, hA, hX, hbl, hbA, ⟨Nat.le_refl _, Nat.le_refl _⟩, ⟨by decide, by decide⟩, hdis⟩
  refine lw_loop X hgz hL (fun i σ μ => ?_) (L + 5) 0 c0S m0S (by omega) (by omega) rc_fresh inv_fresh H3 locs3 ls hPc3 hP3 hD1 hD3 hS3 hl
  intro H4 locs4 ls4 hP4 hP5 hD4 hD5 hS4 hl4
  refine lv_iconst (v := 1) hx hb dL_law_796 (by decide) ?_
  refine va_forget (fun q hq => ?_) ?_
  · have h9 := hS4.2.2 q hq
    rw [← hAe] at h9
    exact h9
  · exact lw_ret hx hb hr hlocks dL_law_797
