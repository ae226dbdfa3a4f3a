section LLOOP
variable {p : Program} {l : Launch} {e : Env} {R : Room} {s : State} {m : MethodId} {args : Array Value} {below : List Frame} {meth : Method} {c : Code}
variable {D : va_G} {cA cB : ClassId} {adc adm : Nat → Nat} {A : Nat → Prop} {Q : State → Prop} {b L i cells slots : Nat} {xs : Nat → Int32} {σ μ : mS}
set_option maxRecDepth 100000 in
set_option maxHeartbeats 4000000 in
/-- the switch: whichever case, the next round of the loop follows -/
theorem lw_switch (X : lwC p R s m args c D cA cB adc adm A b L xs cells slots) (hgz : gsZ A s) (hR : RC σ μ) (hV : Inv μ) (hL : i + 3 < L) (hL2 : L ≤ 2048) (next : ∀ σ2 μ2 : mS, RC σ2 μ2 → Inv μ2 → lwW p l e R s m args below meth c D cA cB adc adm A Q b i cells slots σ2 μ2 790 []) (v : Int32) : lwW p l e R s m args below meth c D cA cB adc adm A Q b i cells slots σ μ 32 [.int v] := by
  intro H locs ls hP hP2 hD hD2 hS hl
  by_cases hout : v.toInt < 0 ∨ 19 < v.toInt
  · exact lv_tableOut (tgt := 790) X.1 X.2.1 dL_law_32 hout (by decide) (next σ μ hR hV H locs ls hP hP2 hD hD2 hS hl)
  · obtain ⟨k, hk⟩ : ∃ k : Nat, v.toInt = k := ⟨v.toInt.toNat, by omega⟩
    have h1 : ¬ v.toInt < 0 := fun q => hout (Or.inl q)
    have h2 : ¬ 19 < v.toInt := fun q => hout (Or.inr q)
    have h3 : k < 20 := by omega
    have hz : (v.toInt - 0).toNat = k := by omega
    have go : ∀ (off : Int) (tgt : Nat), (#[96, 119, 168, 201, 260, 293, 316, 339, 352, 375, 408, 451, 484, 517, 540, 573, 596, 639, 672, 715] : Array Int)[k]? = some off → ((32 : Nat) : Int) + off = (tgt : Int) → lwW p l e R s m args below meth c D cA cB adc adm A Q b i cells slots σ μ tgt [] → W p l e R s m args below meth c H locs cells slots Q (F0 m 32 ls [.int v]) := fun off tgt ho ht hw => lv_tableIn (off := off) (tgt := tgt) X.1 X.2.1 dL_law_32 h1 h2 (by rw [hz]; exact ho) ht (hw H locs ls hP hP2 hD hD2 hS hl)
    match k, h3 with
    | 0, _ => exact go 96 128 rfl (by decide) (lc_thing X hR hV hL hL2 next)
    | 1, _ => exact go 119 151 rfl (by decide) (lc_stock X hR hV hL hL2 next)
    | 2, _ => exact go 168 200 rfl (by decide) (lc_set X hgz hR hV hL hL2 next)
    | 3, _ => exact go 201 233 rfl (by decide) (lc_apart X hR hV hL hL2 next)
    | 4, _ => exact go 260 292 rfl (by decide) (lc_basket X hR hV hL hL2 next)
    | 5, _ => exact go 293 325 rfl (by decide) (lc_drop X hR hV hL hL2 next)
    | 6, _ => exact go 316 348 rfl (by decide) (lc_forget X hR hV hL hL2 next)
    | 7, _ => exact go 339 371 rfl (by decide) (lc_day X hR hV hL hL2 next)
    | 8, _ => exact go 352 384 rfl (by decide) (lc_look X hR hV hL hL2 next)
    | 9, _ => exact go 375 407 rfl (by decide) (lc_of X hR hV hL hL2 next)
    | 10, _ => exact go 408 440 rfl (by decide) (lc_count X hR hV hL hL2 next)
    | 11, _ => exact go 451 483 rfl (by decide) (lc_kin X hR hV hL hL2 next)
    | 12, _ => exact go 484 516 rfl (by decide) (lc_near X hR hV hL hL2 next)
    | 13, _ => exact go 517 549 rfl (by decide) (lc_taken X hR hV hL hL2 next)
    | 14, _ => exact go 540 572 rfl (by decide) (lc_score X hR hV hL hL2 next)
    | 15, _ => exact go 573 605 rfl (by decide) (lc_may X hR hV hL hL2 next)
    | 16, _ => exact go 596 628 rfl (by decide) (lc_list X hR hV hL hL2 next)
    | 17, _ => exact go 639 671 rfl (by decide) (lc_show X hR hV hL hL2 next)
    | 18, _ => exact go 672 704 rfl (by decide) (lc_shown X hR hV hL hL2 next)
    | 19, _ => exact go 715 747 rfl (by decide) (lc_why X hR hV hL hL2 next)
    | k + 20, h3 => exact absurd h3 (by omega)
end LLOOP
