section LLOOP2
variable {p : Program} {l : Launch} {e : Env} {R : Room} {s : State} {m : MethodId} {args : Array Value} {below : List Frame} {meth : Method} {c : Code}
variable {D : va_G} {cA cB : ClassId} {adc adm : Nat → Nat} {A : Nat → Prop} {Q : State → Prop} {b L cells slots : Nat} {xs : Nat → Int32}
set_option maxRecDepth 100000 in
set_option maxHeartbeats 4000000 in
theorem lw_loop (X : lwC p R s m args c D cA cB adc adm A b L xs cells slots) (hgz : gsZ A s) (hL2 : L ≤ 2048) (hend : ∀ (i : Nat) (σ μ : mS), lwW p l e R s m args below meth c D cA cB adc adm A Q b i cells slots σ μ 796 []) : ∀ (n i : Nat) (σ μ : mS), L + 4 ≤ i + n → i ≤ L + 3 → RC σ μ → Inv μ → lwW p l e R s m args below meth c D cA cB adc adm A Q b i cells slots σ μ 18 [] := by
  obtain ⟨hx, hb, hml, hown, hts, hK, hA, hX, hbl, hbA, -⟩ := id X
  intro n
  induction n with
  | zero => intro i σ μ h1 h2; omega
  | succ n ih =>
    intro i σ μ h1 h2 hR hV H locs ls hP hP2 hD hD2 hS hl
    have eL : (Int32.ofNat L - 4).toInt = (L : Int) - ((4 : Nat) : Int) := pk_sub_toInt (a := L) (b := 4) (by omega) (by omega)
    refine lv_iload_n hx hb dL_law_18 rfl (lv_at hl 3 rfl) ?_
    refine lv_aload_n hx hb dL_law_19 rfl (lv_at hl 0 rfl) ?_
    refine va_slen hx hb hX hbl hbA hS dL_law_20 ?_
    refine lv_iconst (v := 4) hx hb dL_law_21 (by decide) ?_
    refine lv_isub hx hb dL_law_22 ?_
    refine lv_icmp_gt (tgt := 796) hx hb dL_law_23 (by decide) (fun q => hend i σ μ H locs ls hP hP2 hD hD2 hS hl) (fun q => ?_)
    have hi : i + 3 < L := by
      rw [Int32.lt_iff_toInt_lt, eL, nI_toInt (by omega)] at q
      omega
    refine lv_aload_n hx hb dL_law_26 rfl (lv_at hl 0 rfl) ?_
    refine lv_iload_n hx hb dL_law_27 rfl (lv_at hl 3 rfl) ?_
    refine va_sld hx hb hX hbl hbA hS (vp_in_nI (by omega) (by omega)) dL_law_28 ?_
    refine lv_bipush (v := 31) hx hb dL_law_29 (by decide) ?_
    refine lv_iand hx hb dL_law_31 ?_
    refine lw_switch (i := i) X hgz hR hV hi hL2 (fun σ2 μ2 hR2 hV2 => ?_) _ H locs ls hP hP2 hD hD2 hS hl
    intro H locs ls hP hP2 hD hD2 hS hl
    refine lv_iinc (v := nI (i + 4)) (lv' := [(3, .int (nI (i + 4))), (0, .ref b), (1, .ref (adc 0)), (2, .ref (adm 0))]) hx hb dL_law_790 hl (k := 3) rfl (by rw [show Int32.ofInt 4 = nI 4 from rfl, nI_add]) (by decide) rfl (fun ls hl => ?_)
    refine lv_goto (tgt := 18) hx hb dL_law_793 (by decide) ?_
    exact ih (i + 4) σ2 μ2 (by omega) (by omega) hR2 hV2 H locs ls hP hP2 hD hD2 hS (lv_sub hl [1, 2, 3, 0] rfl)
end LLOOP2
