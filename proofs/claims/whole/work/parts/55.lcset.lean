section LCSET
variable {p : Program} {l : Launch} {e : Env} {R : Room} {s : State} {m : MethodId} {args : Array Value} {below : List Frame} {meth : Method} {c : Code}
variable {D : va_G} {cA cB : ClassId} {adc adm : Nat → Nat} {A : Nat → Prop} {Q : State → Prop} {b L i cells slots : Nat} {xs : Nat → Int32} {σ μ : mS} {pc : Nat} {st : List Value}
theorem lw_cs (X : lwC p R s m args c D cA cB adc adm A b L xs cells slots) (hgz : gsZ A s) {y : MethodName} {cc' : ByteArray} {maxL d j : Nat} {ret : Option FieldType} {cs : mC} {as : List Int32} (hct : mCtS hX0 0 15 vwC y cc' maxL ret d cs) (hst : cs.2.1 = false) (hvd : cs.2.2.1 = false) (hw1 : lwM y cc' maxL ret RL RX0 j cs.1) (hd : d ≤ 7 ∧ maxL ≤ 16) (hlen : as.length = cs.1) (hpre : cs.2.2.2.1 σ as) (hrest : (st.map fun v => v.category).sum ≤ 8) (hdg : decode cL_law pc = .ok (.invokevirtual j, 3))
    (hw : ∀ (r : Int32) (u : mS), cs.2.2.2.2 σ as r u → lwW p l e R s m args below meth c D cA cB adc adm A Q b i cells slots u μ (pc + 3) (.int r :: st)) : lwW p l e R s m args below meth c D cA cB adc adm A Q b i cells slots σ μ pc ((as.map Value.int).reverse ++ .ref (adc 0) :: st) := by
  obtain ⟨hx, hb, hml, hown, hts, hK, hA, -, -, -, hcs, hR, hdis⟩ := X
  intro H locs ls hP hP2 hD hD2 hS hl
  exact lw_callS (T := TX0) hx hb hml hown hts hct hst hvd hw1 ⟨by omega, by omega⟩ rfl hK hP hD hS hA hgz hlen hpre hrest hl.1 hcs hdg (fun r u H1 locs1 hpo hP1 hD1 hk1 hS1 => hw r u hpo H1 locs1 ls hP1 (lw_keep hP2 (hdis σ μ) hk1) hD1 hD2 hS1 hl)
set_option maxRecDepth 100000 in
set_option maxHeartbeats 4000000 in
theorem lc_set (X : lwC p R s m args c D cA cB adc adm A b L xs cells slots) (hgz : gsZ A s) (hR : RC σ μ) (hV : Inv μ) (hL : i + 3 < L) (hL2 : L ≤ 2048) (next : ∀ σ2 μ2 : mS, RC σ2 μ2 → Inv μ2 → lwW p l e R s m args below meth c D cA cB adc adm A Q b i cells slots σ2 μ2 790 []) : lwW p l e R s m args below meth c D cA cB adc adm A Q b i cells slots σ μ 200 [] := by
  refine lw_ao X dL_law_200 ?_
  refine lw_ld X (k := 1) (kn := 1) (by decide) (by omega) hL2 dL_law_201 dL_law_202 dL_law_203 dL_law_204 dL_law_205 ?_
  refine lw_ld X (k := 2) (kn := 2) (by decide) (by omega) hL2 dL_law_206 dL_law_207 dL_law_208 dL_law_209 dL_law_210 ?_
  refine lw_cs X hgz (as := [xs (i + 1), xs (i + 2)]) (st := []) ctX0_set rfl rfl ⟨by decide +kernel, by decide +kernel, by decide +kernel, by decide +kernel, by decide +kernel, by decide +kernel⟩ ⟨by decide, by decide⟩ rfl trivial (by decide) dL_law_211 (fun r u hpo => ?_)
  obtain ⟨hu, hr⟩ := hpo
  refine lw_am X dL_law_214 ?_
  refine lw_ld X (k := 1) (kn := 1) (by decide) (by omega) hL2 dL_law_215 dL_law_216 dL_law_217 dL_law_218 dL_law_219 ?_
  refine lw_ld X (k := 2) (kn := 2) (by decide) (by omega) hL2 dL_law_220 dL_law_221 dL_law_222 dL_law_223 dL_law_224 ?_
  refine lw_cm X (as := [xs (i + 1), xs (i + 2)]) (st := [.int r]) ctX1_set rfl rfl ⟨by decide +kernel, by decide +kernel, by decide +kernel, by decide +kernel, by decide +kernel, by decide +kernel⟩ ⟨by decide, by decide⟩ rfl trivial (Nat.le_of_ble_eq_true rfl) dL_law_225 (fun r2 u2 hpo2 => ?_)
  obtain ⟨hu2, hr2⟩ := hpo2
  rw [hu, hu2, hr, hr2]
  exact lw_eq X (mv_set hR hV (xs (i + 1)) (xs (i + 2))).1 dL_law_228 (by decide) (next _ _ (mv_set hR hV (xs (i + 1)) (xs (i + 2))).2.1 (mv_set hR hV (xs (i + 1)) (xs (i + 2))).2.2)
end LCSET
