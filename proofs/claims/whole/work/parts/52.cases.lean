section LCASES
theorem eq_taken {σ μ : mS} (h : RC σ μ) (_ : Inv μ) (p : Int32) : (if isInF p 0 7 = true then cTak σ p else -1) = (if isInF p 0 7 = true then mTak μ p else -1) := by rw [rc_tak h]
theorem eq_score {σ μ : mS} (h : RC σ μ) (_ : Inv μ) (p x : Int32) : (if isInF p 0 7 = true ∧ cTh σ x = true then cSco σ p x else -1000001) = (if isInF p 0 7 = true ∧ mTh μ x = true then mSco μ p x else -1000001) := by rw [rc_sco h, rc_th h]
theorem eq_may {σ μ : mS} (h : RC σ μ) (hi : Inv μ) (p : Int32) : (if isInF p 0 7 = true then cMay σ p else -1) = (if isInF p 0 7 = true then mMay μ p else -1) := by
  by_cases q : isInF p 0 7 = true
  · rw [if_pos q, if_pos q]
    obtain ⟨p, hp1, rfl, -, -⟩ := mPers_ix q
    exact rc_may h hi.1.1.2 hp1
  · rw [if_neg q, if_neg q]
theorem rc_near {σ μ : mS} (h : RC σ μ) (a i : Int32) : RC (cNearF σ a i).2 μ := by
  unfold cNearF
  by_cases q : cTh σ a = true ∧ isInF i 0 (σ.1 2 - 2) = true
  · rw [if_pos q]; exact rc_cEq h (wcG_eq _ _ _ _)
  · rw [if_neg q]; exact h
theorem rc_why {σ μ : mS} (h : RC σ μ) (p x w : Int32) : RC (cWhyF σ p x w).2 μ := by
  unfold cWhyF
  by_cases q : isInF p 0 7 = true ∧ cTh σ x = true ∧ ¬ cWhyS σ p x = 0
  · rw [if_pos q]; exact rc_cEq h (wcG_eq _ _ _ _)
  · rw [if_neg q]; exact h
variable {p : Program} {l : Launch} {e : Env} {R : Room} {s : State} {m : MethodId} {args : Array Value} {below : List Frame} {meth : Method} {c : Code}
variable {D : va_G} {cA cB : ClassId} {adc adm : Nat → Nat} {A : Nat → Prop} {Q : State → Prop} {b L i cells slots : Nat} {xs : Nat → Int32} {σ μ : mS}
set_option maxRecDepth 100000 in
set_option maxHeartbeats 4000000 in
theorem lc_thing (X : lwC p R s m args c D cA cB adc adm A b L xs cells slots) (hR : RC σ μ) (hV : Inv μ) (hL : i + 3 < L) (hL2 : L ≤ 2048) (next : ∀ σ2 μ2 : mS, RC σ2 μ2 → Inv μ2 → lwW p l e R s m args below meth c D cA cB adc adm A Q b i cells slots σ2 μ2 790 []) : lwW p l e R s m args below meth c D cA cB adc adm A Q b i cells slots σ μ 128 [] := by
  refine lw_ao X dL_law_128 ?_
  refine lw_ld X (k := 1) (kn := 1) (by decide) (by omega) hL2 dL_law_129 dL_law_130 dL_law_131 dL_law_132 dL_law_133 ?_
  refine lw_cc X (as := [xs (i + 1)]) (st := []) ctX0_thing rfl rfl ⟨by decide +kernel, by decide +kernel, by decide +kernel, by decide +kernel, by decide +kernel, by decide +kernel⟩ ⟨by decide, by decide⟩ rfl (rc_ok hR hV) (by decide) dL_law_134 (fun r u hpo => ?_)
  obtain ⟨hu, hr⟩ := hpo
  refine lw_am X dL_law_137 ?_
  refine lw_ld X (k := 1) (kn := 1) (by decide) (by omega) hL2 dL_law_138 dL_law_139 dL_law_140 dL_law_141 dL_law_142 ?_
  refine lw_cm X (as := [xs (i + 1)]) (st := [.int r]) ctX1_thing rfl rfl ⟨by decide +kernel, by decide +kernel, by decide +kernel, by decide +kernel, by decide +kernel, by decide +kernel⟩ ⟨by decide, by decide⟩ rfl hV.1 (Nat.le_of_ble_eq_true rfl) dL_law_143 (fun r2 u2 hpo2 => ?_)
  obtain ⟨hu2, hr2⟩ := hpo2
  rw [hu, hu2, hr, hr2]
  exact lw_eq X (mv_thing hR hV (xs (i + 1))).1 dL_law_146 (by decide) (next _ _ (mv_thing hR hV (xs (i + 1))).2.1 (mv_thing hR hV (xs (i + 1))).2.2)
set_option maxRecDepth 100000 in
set_option maxHeartbeats 4000000 in
theorem lc_stock (X : lwC p R s m args c D cA cB adc adm A b L xs cells slots) (hR : RC σ μ) (hV : Inv μ) (hL : i + 3 < L) (hL2 : L ≤ 2048) (next : ∀ σ2 μ2 : mS, RC σ2 μ2 → Inv μ2 → lwW p l e R s m args below meth c D cA cB adc adm A Q b i cells slots σ2 μ2 790 []) : lwW p l e R s m args below meth c D cA cB adc adm A Q b i cells slots σ μ 151 [] := by
  refine lw_ao X dL_law_151 ?_
  refine lw_ld X (k := 1) (kn := 1) (by decide) (by omega) hL2 dL_law_152 dL_law_153 dL_law_154 dL_law_155 dL_law_156 ?_
  refine lw_ld X (k := 2) (kn := 2) (by decide) (by omega) hL2 dL_law_157 dL_law_158 dL_law_159 dL_law_160 dL_law_161 ?_
  refine lw_nz X dL_law_162 dL_law_165 dL_law_166 dL_law_169 ?_
  refine lw_cc X (as := [xs (i + 1), (if (xs (i + 2)) = 0 then 0 else 1)]) (st := []) ctX0_stock rfl rfl ⟨by decide +kernel, by decide +kernel, by decide +kernel, by decide +kernel, by decide +kernel, by decide +kernel⟩ ⟨by decide, by decide⟩ rfl (rc_ok hR hV) (by decide) dL_law_170 (fun r u hpo => ?_)
  obtain ⟨hu, hr⟩ := hpo
  refine lw_am X dL_law_173 ?_
  refine lw_ld X (k := 1) (kn := 1) (by decide) (by omega) hL2 dL_law_174 dL_law_175 dL_law_176 dL_law_177 dL_law_178 ?_
  refine lw_ld X (k := 2) (kn := 2) (by decide) (by omega) hL2 dL_law_179 dL_law_180 dL_law_181 dL_law_182 dL_law_183 ?_
  refine lw_nz X dL_law_184 dL_law_187 dL_law_188 dL_law_191 ?_
  refine lw_cm X (as := [xs (i + 1), (if (xs (i + 2)) = 0 then 0 else 1)]) (st := [.int r]) ctX1_stock rfl rfl ⟨by decide +kernel, by decide +kernel, by decide +kernel, by decide +kernel, by decide +kernel, by decide +kernel⟩ ⟨by decide, by decide⟩ rfl trivial (Nat.le_of_ble_eq_true rfl) dL_law_192 (fun r2 u2 hpo2 => ?_)
  obtain ⟨hu2, hr2⟩ := hpo2
  rw [hu, hu2, hr, hr2]
  exact lw_eq X (mv_stock hR hV (xs (i + 1)) (if (xs (i + 2)) = 0 then 0 else 1)).1 dL_law_195 (by decide) (next _ _ (mv_stock hR hV (xs (i + 1)) (if (xs (i + 2)) = 0 then 0 else 1)).2.1 (mv_stock hR hV (xs (i + 1)) (if (xs (i + 2)) = 0 then 0 else 1)).2.2)
set_option maxRecDepth 100000 in
set_option maxHeartbeats 4000000 in
theorem lc_apart (X : lwC p R s m args c D cA cB adc adm A b L xs cells slots) (hR : RC σ μ) (hV : Inv μ) (hL : i + 3 < L) (hL2 : L ≤ 2048) (next : ∀ σ2 μ2 : mS, RC σ2 μ2 → Inv μ2 → lwW p l e R s m args below meth c D cA cB adc adm A Q b i cells slots σ2 μ2 790 []) : lwW p l e R s m args below meth c D cA cB adc adm A Q b i cells slots σ μ 233 [] := by
  refine lw_ao X dL_law_233 ?_
  refine lw_ld X (k := 1) (kn := 1) (by decide) (by omega) hL2 dL_law_234 dL_law_235 dL_law_236 dL_law_237 dL_law_238 ?_
  refine lw_ld X (k := 2) (kn := 2) (by decide) (by omega) hL2 dL_law_239 dL_law_240 dL_law_241 dL_law_242 dL_law_243 ?_
  refine lw_ld X (k := 3) (kn := 3) (by decide) (by omega) hL2 dL_law_244 dL_law_245 dL_law_246 dL_law_247 dL_law_248 ?_
  refine lw_nz X dL_law_249 dL_law_252 dL_law_253 dL_law_256 ?_
  refine lw_cc X (as := [xs (i + 1), xs (i + 2), (if (xs (i + 3)) = 0 then 0 else 1)]) (st := []) ctX0_apart rfl rfl ⟨by decide +kernel, by decide +kernel, by decide +kernel, by decide +kernel, by decide +kernel, by decide +kernel⟩ ⟨by decide, by decide⟩ rfl (rc_ok hR hV) (by decide) dL_law_257 (fun r u hpo => ?_)
  obtain ⟨hu, hr⟩ := hpo
  refine lw_am X dL_law_260 ?_
  refine lw_ld X (k := 1) (kn := 1) (by decide) (by omega) hL2 dL_law_261 dL_law_262 dL_law_263 dL_law_264 dL_law_265 ?_
  refine lw_ld X (k := 2) (kn := 2) (by decide) (by omega) hL2 dL_law_266 dL_law_267 dL_law_268 dL_law_269 dL_law_270 ?_
  refine lw_ld X (k := 3) (kn := 3) (by decide) (by omega) hL2 dL_law_271 dL_law_272 dL_law_273 dL_law_274 dL_law_275 ?_
  refine lw_nz X dL_law_276 dL_law_279 dL_law_280 dL_law_283 ?_
  refine lw_cm X (as := [xs (i + 1), xs (i + 2), (if (xs (i + 3)) = 0 then 0 else 1)]) (st := [.int r]) ctX1_apart rfl rfl ⟨by decide +kernel, by decide +kernel, by decide +kernel, by decide +kernel, by decide +kernel, by decide +kernel⟩ ⟨by decide, by decide⟩ rfl hV.1 (Nat.le_of_ble_eq_true rfl) dL_law_284 (fun r2 u2 hpo2 => ?_)
  obtain ⟨hu2, hr2⟩ := hpo2
  rw [hu, hu2, hr, hr2]
  exact lw_eq X (mv_apart hR hV (xs (i + 1)) (xs (i + 2)) (if (xs (i + 3)) = 0 then 0 else 1)).1 dL_law_287 (by decide) (next _ _ (mv_apart hR hV (xs (i + 1)) (xs (i + 2)) (if (xs (i + 3)) = 0 then 0 else 1)).2.1 (mv_apart hR hV (xs (i + 1)) (xs (i + 2)) (if (xs (i + 3)) = 0 then 0 else 1)).2.2)
set_option maxRecDepth 100000 in
set_option maxHeartbeats 4000000 in
theorem lc_basket (X : lwC p R s m args c D cA cB adc adm A b L xs cells slots) (hR : RC σ μ) (hV : Inv μ) (hL : i + 3 < L) (hL2 : L ≤ 2048) (next : ∀ σ2 μ2 : mS, RC σ2 μ2 → Inv μ2 → lwW p l e R s m args below meth c D cA cB adc adm A Q b i cells slots σ2 μ2 790 []) : lwW p l e R s m args below meth c D cA cB adc adm A Q b i cells slots σ μ 292 [] := by
  refine lw_ao X dL_law_292 ?_
  refine lw_ld X (k := 1) (kn := 1) (by decide) (by omega) hL2 dL_law_293 dL_law_294 dL_law_295 dL_law_296 dL_law_297 ?_
  refine lw_ld X (k := 2) (kn := 2) (by decide) (by omega) hL2 dL_law_298 dL_law_299 dL_law_300 dL_law_301 dL_law_302 ?_
  refine lw_cc X (as := [xs (i + 1), xs (i + 2)]) (st := []) ctX0_basket rfl rfl ⟨by decide +kernel, by decide +kernel, by decide +kernel, by decide +kernel, by decide +kernel, by decide +kernel⟩ ⟨by decide, by decide⟩ rfl (rc_ok hR hV) (by decide) dL_law_303 (fun r u hpo => ?_)
  obtain ⟨hu, hr⟩ := hpo
  refine lw_am X dL_law_306 ?_
  refine lw_ld X (k := 1) (kn := 1) (by decide) (by omega) hL2 dL_law_307 dL_law_308 dL_law_309 dL_law_310 dL_law_311 ?_
  refine lw_ld X (k := 2) (kn := 2) (by decide) (by omega) hL2 dL_law_312 dL_law_313 dL_law_314 dL_law_315 dL_law_316 ?_
  refine lw_cm X (as := [xs (i + 1), xs (i + 2)]) (st := [.int r]) ctX1_basket rfl rfl ⟨by decide +kernel, by decide +kernel, by decide +kernel, by decide +kernel, by decide +kernel, by decide +kernel⟩ ⟨by decide, by decide⟩ rfl hV.1 (Nat.le_of_ble_eq_true rfl) dL_law_317 (fun r2 u2 hpo2 => ?_)
  obtain ⟨hu2, hr2⟩ := hpo2
  rw [hu, hu2, hr, hr2]
  exact lw_eq X (mv_basket hR hV (xs (i + 1)) (xs (i + 2))).1 dL_law_320 (by decide) (next _ _ (mv_basket hR hV (xs (i + 1)) (xs (i + 2))).2.1 (mv_basket hR hV (xs (i + 1)) (xs (i + 2))).2.2)
set_option maxRecDepth 100000 in
set_option maxHeartbeats 4000000 in
theorem lc_drop (X : lwC p R s m args c D cA cB adc adm A b L xs cells slots) (hR : RC σ μ) (hV : Inv μ) (hL : i + 3 < L) (hL2 : L ≤ 2048) (next : ∀ σ2 μ2 : mS, RC σ2 μ2 → Inv μ2 → lwW p l e R s m args below meth c D cA cB adc adm A Q b i cells slots σ2 μ2 790 []) : lwW p l e R s m args below meth c D cA cB adc adm A Q b i cells slots σ μ 325 [] := by
  refine lw_ao X dL_law_325 ?_
  refine lw_ld X (k := 1) (kn := 1) (by decide) (by omega) hL2 dL_law_326 dL_law_327 dL_law_328 dL_law_329 dL_law_330 ?_
  refine lw_cc X (as := [xs (i + 1)]) (st := []) ctX0_drop rfl rfl ⟨by decide +kernel, by decide +kernel, by decide +kernel, by decide +kernel, by decide +kernel, by decide +kernel⟩ ⟨by decide, by decide⟩ rfl (rc_ok hR hV) (by decide) dL_law_331 (fun r u hpo => ?_)
  obtain ⟨hu, hr⟩ := hpo
  refine lw_am X dL_law_334 ?_
  refine lw_ld X (k := 1) (kn := 1) (by decide) (by omega) hL2 dL_law_335 dL_law_336 dL_law_337 dL_law_338 dL_law_339 ?_
  refine lw_cm X (as := [xs (i + 1)]) (st := [.int r]) ctX1_drop rfl rfl ⟨by decide +kernel, by decide +kernel, by decide +kernel, by decide +kernel, by decide +kernel, by decide +kernel⟩ ⟨by decide, by decide⟩ rfl hV.1 (Nat.le_of_ble_eq_true rfl) dL_law_340 (fun r2 u2 hpo2 => ?_)
  obtain ⟨hu2, hr2⟩ := hpo2
  rw [hu, hu2, hr, hr2]
  exact lw_eq X (mv_drop hR hV (xs (i + 1))).1 dL_law_343 (by decide) (next _ _ (mv_drop hR hV (xs (i + 1))).2.1 (mv_drop hR hV (xs (i + 1))).2.2)
set_option maxRecDepth 100000 in
set_option maxHeartbeats 4000000 in
theorem lc_forget (X : lwC p R s m args c D cA cB adc adm A b L xs cells slots) (hR : RC σ μ) (hV : Inv μ) (hL : i + 3 < L) (hL2 : L ≤ 2048) (next : ∀ σ2 μ2 : mS, RC σ2 μ2 → Inv μ2 → lwW p l e R s m args below meth c D cA cB adc adm A Q b i cells slots σ2 μ2 790 []) : lwW p l e R s m args below meth c D cA cB adc adm A Q b i cells slots σ μ 348 [] := by
  refine lw_ao X dL_law_348 ?_
  refine lw_ld X (k := 1) (kn := 1) (by decide) (by omega) hL2 dL_law_349 dL_law_350 dL_law_351 dL_law_352 dL_law_353 ?_
  refine lw_cc X (as := [xs (i + 1)]) (st := []) ctX0_forget rfl rfl ⟨by decide +kernel, by decide +kernel, by decide +kernel, by decide +kernel, by decide +kernel, by decide +kernel⟩ ⟨by decide, by decide⟩ rfl (rc_ok hR hV) (by decide) dL_law_354 (fun r u hpo => ?_)
  obtain ⟨hu, hr⟩ := hpo
  refine lw_am X dL_law_357 ?_
  refine lw_ld X (k := 1) (kn := 1) (by decide) (by omega) hL2 dL_law_358 dL_law_359 dL_law_360 dL_law_361 dL_law_362 ?_
  refine lw_cm X (as := [xs (i + 1)]) (st := [.int r]) ctX1_forget rfl rfl ⟨by decide +kernel, by decide +kernel, by decide +kernel, by decide +kernel, by decide +kernel, by decide +kernel⟩ ⟨by decide, by decide⟩ rfl hV.1 (Nat.le_of_ble_eq_true rfl) dL_law_363 (fun r2 u2 hpo2 => ?_)
  obtain ⟨hu2, hr2⟩ := hpo2
  rw [hu, hu2, hr, hr2]
  exact lw_eq X (mv_forget hR hV (xs (i + 1))).1 dL_law_366 (by decide) (next _ _ (mv_forget hR hV (xs (i + 1))).2.1 (mv_forget hR hV (xs (i + 1))).2.2)
set_option maxRecDepth 100000 in
set_option maxHeartbeats 4000000 in
theorem lc_day (X : lwC p R s m args c D cA cB adc adm A b L xs cells slots) (hR : RC σ μ) (hV : Inv μ) (hL : i + 3 < L) (hL2 : L ≤ 2048) (next : ∀ σ2 μ2 : mS, RC σ2 μ2 → Inv μ2 → lwW p l e R s m args below meth c D cA cB adc adm A Q b i cells slots σ2 μ2 790 []) : lwW p l e R s m args below meth c D cA cB adc adm A Q b i cells slots σ μ 371 [] := by
  refine lw_ao X dL_law_371 ?_
  refine lw_cc X (as := []) (st := []) ctX0_day rfl rfl ⟨by decide +kernel, by decide +kernel, by decide +kernel, by decide +kernel, by decide +kernel, by decide +kernel⟩ ⟨by decide, by decide⟩ rfl (rc_ok hR hV) (by decide) dL_law_372 (fun r u hpo => ?_)
  obtain ⟨hu, hr⟩ := hpo
  refine lw_am X dL_law_375 ?_
  refine lw_cm X (as := []) (st := [.int r]) ctX1_day rfl rfl ⟨by decide +kernel, by decide +kernel, by decide +kernel, by decide +kernel, by decide +kernel, by decide +kernel⟩ ⟨by decide, by decide⟩ rfl hV.1 (Nat.le_of_ble_eq_true rfl) dL_law_376 (fun r2 u2 hpo2 => ?_)
  obtain ⟨hu2, hr2⟩ := hpo2
  rw [hu, hu2, hr, hr2]
  exact lw_eq X (mv_day hR hV).1 dL_law_379 (by decide) (next _ _ (mv_day hR hV).2.1 (mv_day hR hV).2.2)
set_option maxRecDepth 100000 in
set_option maxHeartbeats 4000000 in
theorem lc_look (X : lwC p R s m args c D cA cB adc adm A b L xs cells slots) (hR : RC σ μ) (hV : Inv μ) (hL : i + 3 < L) (hL2 : L ≤ 2048) (next : ∀ σ2 μ2 : mS, RC σ2 μ2 → Inv μ2 → lwW p l e R s m args below meth c D cA cB adc adm A Q b i cells slots σ2 μ2 790 []) : lwW p l e R s m args below meth c D cA cB adc adm A Q b i cells slots σ μ 384 [] := by
  refine lw_ao X dL_law_384 ?_
  refine lw_ld X (k := 1) (kn := 1) (by decide) (by omega) hL2 dL_law_385 dL_law_386 dL_law_387 dL_law_388 dL_law_389 ?_
  refine lw_cc X (as := [xs (i + 1)]) (st := []) ctX0_look rfl rfl ⟨by decide +kernel, by decide +kernel, by decide +kernel, by decide +kernel, by decide +kernel, by decide +kernel⟩ ⟨by decide, by decide⟩ rfl (rc_ok hR hV) (by decide) dL_law_390 (fun r u hpo => ?_)
  obtain ⟨hu, hr⟩ := hpo
  refine lw_am X dL_law_393 ?_
  refine lw_ld X (k := 1) (kn := 1) (by decide) (by omega) hL2 dL_law_394 dL_law_395 dL_law_396 dL_law_397 dL_law_398 ?_
  refine lw_cm X (as := [xs (i + 1)]) (st := [.int r]) ctX1_look rfl rfl ⟨by decide +kernel, by decide +kernel, by decide +kernel, by decide +kernel, by decide +kernel, by decide +kernel⟩ ⟨by decide, by decide⟩ rfl hV.1 (Nat.le_of_ble_eq_true rfl) dL_law_399 (fun r2 u2 hpo2 => ?_)
  obtain ⟨hu2, hr2⟩ := hpo2
  rw [hu, hu2, hr, hr2]
  exact lw_eq X (eq_look hR (xs (i + 1))) dL_law_402 (by decide) (next _ _ hR hV)
set_option maxRecDepth 100000 in
set_option maxHeartbeats 4000000 in
theorem lc_of (X : lwC p R s m args c D cA cB adc adm A b L xs cells slots) (hR : RC σ μ) (hV : Inv μ) (hL : i + 3 < L) (hL2 : L ≤ 2048) (next : ∀ σ2 μ2 : mS, RC σ2 μ2 → Inv μ2 → lwW p l e R s m args below meth c D cA cB adc adm A Q b i cells slots σ2 μ2 790 []) : lwW p l e R s m args below meth c D cA cB adc adm A Q b i cells slots σ μ 407 [] := by
  refine lw_ao X dL_law_407 ?_
  refine lw_ld X (k := 1) (kn := 1) (by decide) (by omega) hL2 dL_law_408 dL_law_409 dL_law_410 dL_law_411 dL_law_412 ?_
  refine lw_ld X (k := 2) (kn := 2) (by decide) (by omega) hL2 dL_law_413 dL_law_414 dL_law_415 dL_law_416 dL_law_417 ?_
  refine lw_cc X (as := [xs (i + 1), xs (i + 2)]) (st := []) ctX0_of rfl rfl ⟨by decide +kernel, by decide +kernel, by decide +kernel, by decide +kernel, by decide +kernel, by decide +kernel⟩ ⟨by decide, by decide⟩ rfl (rc_ok hR hV) (by decide) dL_law_418 (fun r u hpo => ?_)
  obtain ⟨hu, hr⟩ := hpo
  refine lw_am X dL_law_421 ?_
  refine lw_ld X (k := 1) (kn := 1) (by decide) (by omega) hL2 dL_law_422 dL_law_423 dL_law_424 dL_law_425 dL_law_426 ?_
  refine lw_ld X (k := 2) (kn := 2) (by decide) (by omega) hL2 dL_law_427 dL_law_428 dL_law_429 dL_law_430 dL_law_431 ?_
  refine lw_cm X (as := [xs (i + 1), xs (i + 2)]) (st := [.int r]) ctX1_of rfl rfl ⟨by decide +kernel, by decide +kernel, by decide +kernel, by decide +kernel, by decide +kernel, by decide +kernel⟩ ⟨by decide, by decide⟩ rfl hV.1 (Nat.le_of_ble_eq_true rfl) dL_law_432 (fun r2 u2 hpo2 => ?_)
  obtain ⟨hu2, hr2⟩ := hpo2
  rw [hu, hu2, hr, hr2]
  exact lw_eq X (eq_of hR (xs (i + 1)) (xs (i + 2))) dL_law_435 (by decide) (next _ _ hR hV)
set_option maxRecDepth 100000 in
set_option maxHeartbeats 4000000 in
theorem lc_count (X : lwC p R s m args c D cA cB adc adm A b L xs cells slots) (hR : RC σ μ) (hV : Inv μ) (hL : i + 3 < L) (hL2 : L ≤ 2048) (next : ∀ σ2 μ2 : mS, RC σ2 μ2 → Inv μ2 → lwW p l e R s m args below meth c D cA cB adc adm A Q b i cells slots σ2 μ2 790 []) : lwW p l e R s m args below meth c D cA cB adc adm A Q b i cells slots σ μ 440 [] := by
  refine lw_ao X dL_law_440 ?_
  refine lw_ld X (k := 1) (kn := 1) (by decide) (by omega) hL2 dL_law_441 dL_law_442 dL_law_443 dL_law_444 dL_law_445 ?_
  refine lw_ld X (k := 2) (kn := 2) (by decide) (by omega) hL2 dL_law_446 dL_law_447 dL_law_448 dL_law_449 dL_law_450 ?_
  refine lw_ld X (k := 3) (kn := 3) (by decide) (by omega) hL2 dL_law_451 dL_law_452 dL_law_453 dL_law_454 dL_law_455 ?_
  refine lw_cc X (as := [xs (i + 1), xs (i + 2), xs (i + 3)]) (st := []) ctX0_count rfl rfl ⟨by decide +kernel, by decide +kernel, by decide +kernel, by decide +kernel, by decide +kernel, by decide +kernel⟩ ⟨by decide, by decide⟩ rfl (rc_ok hR hV) (by decide) dL_law_456 (fun r u hpo => ?_)
  obtain ⟨hu, hr⟩ := hpo
  refine lw_am X dL_law_459 ?_
  refine lw_ld X (k := 1) (kn := 1) (by decide) (by omega) hL2 dL_law_460 dL_law_461 dL_law_462 dL_law_463 dL_law_464 ?_
  refine lw_ld X (k := 2) (kn := 2) (by decide) (by omega) hL2 dL_law_465 dL_law_466 dL_law_467 dL_law_468 dL_law_469 ?_
  refine lw_ld X (k := 3) (kn := 3) (by decide) (by omega) hL2 dL_law_470 dL_law_471 dL_law_472 dL_law_473 dL_law_474 ?_
  refine lw_cm X (as := [xs (i + 1), xs (i + 2), xs (i + 3)]) (st := [.int r]) ctX1_count rfl rfl ⟨by decide +kernel, by decide +kernel, by decide +kernel, by decide +kernel, by decide +kernel, by decide +kernel⟩ ⟨by decide, by decide⟩ rfl hV.1 (Nat.le_of_ble_eq_true rfl) dL_law_475 (fun r2 u2 hpo2 => ?_)
  obtain ⟨hu2, hr2⟩ := hpo2
  rw [hu, hu2, hr, hr2]
  exact lw_eq X (eq_count hR (xs (i + 1)) (xs (i + 2)) (xs (i + 3))) dL_law_478 (by decide) (next _ _ hR hV)
set_option maxRecDepth 100000 in
set_option maxHeartbeats 4000000 in
theorem lc_kin (X : lwC p R s m args c D cA cB adc adm A b L xs cells slots) (hR : RC σ μ) (hV : Inv μ) (hL : i + 3 < L) (hL2 : L ≤ 2048) (next : ∀ σ2 μ2 : mS, RC σ2 μ2 → Inv μ2 → lwW p l e R s m args below meth c D cA cB adc adm A Q b i cells slots σ2 μ2 790 []) : lwW p l e R s m args below meth c D cA cB adc adm A Q b i cells slots σ μ 483 [] := by
  refine lw_ao X dL_law_483 ?_
  refine lw_ld X (k := 1) (kn := 1) (by decide) (by omega) hL2 dL_law_484 dL_law_485 dL_law_486 dL_law_487 dL_law_488 ?_
  refine lw_ld X (k := 2) (kn := 2) (by decide) (by omega) hL2 dL_law_489 dL_law_490 dL_law_491 dL_law_492 dL_law_493 ?_
  refine lw_cc X (as := [xs (i + 1), xs (i + 2)]) (st := []) ctX0_kin rfl rfl ⟨by decide +kernel, by decide +kernel, by decide +kernel, by decide +kernel, by decide +kernel, by decide +kernel⟩ ⟨by decide, by decide⟩ rfl (rc_ok hR hV) (by decide) dL_law_494 (fun r u hpo => ?_)
  obtain ⟨hu, hr⟩ := hpo
  refine lw_am X dL_law_497 ?_
  refine lw_ld X (k := 1) (kn := 1) (by decide) (by omega) hL2 dL_law_498 dL_law_499 dL_law_500 dL_law_501 dL_law_502 ?_
  refine lw_ld X (k := 2) (kn := 2) (by decide) (by omega) hL2 dL_law_503 dL_law_504 dL_law_505 dL_law_506 dL_law_507 ?_
  refine lw_cm X (as := [xs (i + 1), xs (i + 2)]) (st := [.int r]) ctX1_kin rfl rfl ⟨by decide +kernel, by decide +kernel, by decide +kernel, by decide +kernel, by decide +kernel, by decide +kernel⟩ ⟨by decide, by decide⟩ rfl hV.1 (Nat.le_of_ble_eq_true rfl) dL_law_508 (fun r2 u2 hpo2 => ?_)
  obtain ⟨hu2, hr2⟩ := hpo2
  rw [hu, hu2, hr, hr2]
  exact lw_eq X (eq_kin hR (xs (i + 1)) (xs (i + 2))) dL_law_511 (by decide) (next _ _ hR hV)
set_option maxRecDepth 100000 in
set_option maxHeartbeats 4000000 in
theorem lc_near (X : lwC p R s m args c D cA cB adc adm A b L xs cells slots) (hR : RC σ μ) (hV : Inv μ) (hL : i + 3 < L) (hL2 : L ≤ 2048) (next : ∀ σ2 μ2 : mS, RC σ2 μ2 → Inv μ2 → lwW p l e R s m args below meth c D cA cB adc adm A Q b i cells slots σ2 μ2 790 []) : lwW p l e R s m args below meth c D cA cB adc adm A Q b i cells slots σ μ 516 [] := by
  refine lw_ao X dL_law_516 ?_
  refine lw_ld X (k := 1) (kn := 1) (by decide) (by omega) hL2 dL_law_517 dL_law_518 dL_law_519 dL_law_520 dL_law_521 ?_
  refine lw_ld X (k := 2) (kn := 2) (by decide) (by omega) hL2 dL_law_522 dL_law_523 dL_law_524 dL_law_525 dL_law_526 ?_
  refine lw_cc X (as := [xs (i + 1), xs (i + 2)]) (st := []) ctX0_near rfl rfl ⟨by decide +kernel, by decide +kernel, by decide +kernel, by decide +kernel, by decide +kernel, by decide +kernel⟩ ⟨by decide, by decide⟩ rfl (rc_ok hR hV) (by decide) dL_law_527 (fun r u hpo => ?_)
  obtain ⟨hu, hr⟩ := hpo
  refine lw_am X dL_law_530 ?_
  refine lw_ld X (k := 1) (kn := 1) (by decide) (by omega) hL2 dL_law_531 dL_law_532 dL_law_533 dL_law_534 dL_law_535 ?_
  refine lw_ld X (k := 2) (kn := 2) (by decide) (by omega) hL2 dL_law_536 dL_law_537 dL_law_538 dL_law_539 dL_law_540 ?_
  refine lw_cm X (as := [xs (i + 1), xs (i + 2)]) (st := [.int r]) ctX1_near rfl rfl ⟨by decide +kernel, by decide +kernel, by decide +kernel, by decide +kernel, by decide +kernel, by decide +kernel⟩ ⟨by decide, by decide⟩ rfl hV.1 (Nat.le_of_ble_eq_true rfl) dL_law_541 (fun r2 u2 hpo2 => ?_)
  obtain ⟨hu2, hr2⟩ := hpo2
  rw [hu, hu2, hr, hr2]
  exact lw_eq X (eq_near hR (xs (i + 1)) (xs (i + 2))) dL_law_544 (by decide) (next _ _ (rc_near hR (xs (i + 1)) (xs (i + 2))) hV)
set_option maxRecDepth 100000 in
set_option maxHeartbeats 4000000 in
theorem lc_taken (X : lwC p R s m args c D cA cB adc adm A b L xs cells slots) (hR : RC σ μ) (hV : Inv μ) (hL : i + 3 < L) (hL2 : L ≤ 2048) (next : ∀ σ2 μ2 : mS, RC σ2 μ2 → Inv μ2 → lwW p l e R s m args below meth c D cA cB adc adm A Q b i cells slots σ2 μ2 790 []) : lwW p l e R s m args below meth c D cA cB adc adm A Q b i cells slots σ μ 549 [] := by
  refine lw_ao X dL_law_549 ?_
  refine lw_ld X (k := 1) (kn := 1) (by decide) (by omega) hL2 dL_law_550 dL_law_551 dL_law_552 dL_law_553 dL_law_554 ?_
  refine lw_cc X (as := [xs (i + 1)]) (st := []) ctX0_taken rfl rfl ⟨by decide +kernel, by decide +kernel, by decide +kernel, by decide +kernel, by decide +kernel, by decide +kernel⟩ ⟨by decide, by decide⟩ rfl (rc_ok hR hV) (by decide) dL_law_555 (fun r u hpo => ?_)
  obtain ⟨hu, hr⟩ := hpo
  refine lw_am X dL_law_558 ?_
  refine lw_ld X (k := 1) (kn := 1) (by decide) (by omega) hL2 dL_law_559 dL_law_560 dL_law_561 dL_law_562 dL_law_563 ?_
  refine lw_cm X (as := [xs (i + 1)]) (st := [.int r]) ctX1_taken rfl rfl ⟨by decide +kernel, by decide +kernel, by decide +kernel, by decide +kernel, by decide +kernel, by decide +kernel⟩ ⟨by decide, by decide⟩ rfl hV.1 (Nat.le_of_ble_eq_true rfl) dL_law_564 (fun r2 u2 hpo2 => ?_)
  obtain ⟨hu2, hr2⟩ := hpo2
  rw [hu, hu2, hr, hr2]
  exact lw_eq X (eq_taken hR hV (xs (i + 1))) dL_law_567 (by decide) (next _ _ hR hV)
set_option maxRecDepth 100000 in
set_option maxHeartbeats 4000000 in
theorem lc_score (X : lwC p R s m args c D cA cB adc adm A b L xs cells slots) (hR : RC σ μ) (hV : Inv μ) (hL : i + 3 < L) (hL2 : L ≤ 2048) (next : ∀ σ2 μ2 : mS, RC σ2 μ2 → Inv μ2 → lwW p l e R s m args below meth c D cA cB adc adm A Q b i cells slots σ2 μ2 790 []) : lwW p l e R s m args below meth c D cA cB adc adm A Q b i cells slots σ μ 572 [] := by
  refine lw_ao X dL_law_572 ?_
  refine lw_ld X (k := 1) (kn := 1) (by decide) (by omega) hL2 dL_law_573 dL_law_574 dL_law_575 dL_law_576 dL_law_577 ?_
  refine lw_ld X (k := 2) (kn := 2) (by decide) (by omega) hL2 dL_law_578 dL_law_579 dL_law_580 dL_law_581 dL_law_582 ?_
  refine lw_cc X (as := [xs (i + 1), xs (i + 2)]) (st := []) ctX0_score rfl rfl ⟨by decide +kernel, by decide +kernel, by decide +kernel, by decide +kernel, by decide +kernel, by decide +kernel⟩ ⟨by decide, by decide⟩ rfl (rc_ok hR hV) (by decide) dL_law_583 (fun r u hpo => ?_)
  obtain ⟨hu, hr⟩ := hpo
  refine lw_am X dL_law_586 ?_
  refine lw_ld X (k := 1) (kn := 1) (by decide) (by omega) hL2 dL_law_587 dL_law_588 dL_law_589 dL_law_590 dL_law_591 ?_
  refine lw_ld X (k := 2) (kn := 2) (by decide) (by omega) hL2 dL_law_592 dL_law_593 dL_law_594 dL_law_595 dL_law_596 ?_
  refine lw_cm X (as := [xs (i + 1), xs (i + 2)]) (st := [.int r]) ctX1_score rfl rfl ⟨by decide +kernel, by decide +kernel, by decide +kernel, by decide +kernel, by decide +kernel, by decide +kernel⟩ ⟨by decide, by decide⟩ rfl hV.1 (Nat.le_of_ble_eq_true rfl) dL_law_597 (fun r2 u2 hpo2 => ?_)
  obtain ⟨hu2, hr2⟩ := hpo2
  rw [hu, hu2, hr, hr2]
  exact lw_eq X (eq_score hR hV (xs (i + 1)) (xs (i + 2))) dL_law_600 (by decide) (next _ _ hR hV)
set_option maxRecDepth 100000 in
set_option maxHeartbeats 4000000 in
theorem lc_may (X : lwC p R s m args c D cA cB adc adm A b L xs cells slots) (hR : RC σ μ) (hV : Inv μ) (hL : i + 3 < L) (hL2 : L ≤ 2048) (next : ∀ σ2 μ2 : mS, RC σ2 μ2 → Inv μ2 → lwW p l e R s m args below meth c D cA cB adc adm A Q b i cells slots σ2 μ2 790 []) : lwW p l e R s m args below meth c D cA cB adc adm A Q b i cells slots σ μ 605 [] := by
  refine lw_ao X dL_law_605 ?_
  refine lw_ld X (k := 1) (kn := 1) (by decide) (by omega) hL2 dL_law_606 dL_law_607 dL_law_608 dL_law_609 dL_law_610 ?_
  refine lw_cc X (as := [xs (i + 1)]) (st := []) ctX0_may rfl rfl ⟨by decide +kernel, by decide +kernel, by decide +kernel, by decide +kernel, by decide +kernel, by decide +kernel⟩ ⟨by decide, by decide⟩ rfl (rc_ok hR hV) (by decide) dL_law_611 (fun r u hpo => ?_)
  obtain ⟨hu, hr⟩ := hpo
  refine lw_am X dL_law_614 ?_
  refine lw_ld X (k := 1) (kn := 1) (by decide) (by omega) hL2 dL_law_615 dL_law_616 dL_law_617 dL_law_618 dL_law_619 ?_
  refine lw_cm X (as := [xs (i + 1)]) (st := [.int r]) ctX1_may rfl rfl ⟨by decide +kernel, by decide +kernel, by decide +kernel, by decide +kernel, by decide +kernel, by decide +kernel⟩ ⟨by decide, by decide⟩ rfl hV.1 (Nat.le_of_ble_eq_true rfl) dL_law_620 (fun r2 u2 hpo2 => ?_)
  obtain ⟨hu2, hr2⟩ := hpo2
  rw [hu, hu2, hr, hr2]
  exact lw_eq X (eq_may hR hV (xs (i + 1))) dL_law_623 (by decide) (next _ _ hR hV)
set_option maxRecDepth 100000 in
set_option maxHeartbeats 4000000 in
theorem lc_list (X : lwC p R s m args c D cA cB adc adm A b L xs cells slots) (hR : RC σ μ) (hV : Inv μ) (hL : i + 3 < L) (hL2 : L ≤ 2048) (next : ∀ σ2 μ2 : mS, RC σ2 μ2 → Inv μ2 → lwW p l e R s m args below meth c D cA cB adc adm A Q b i cells slots σ2 μ2 790 []) : lwW p l e R s m args below meth c D cA cB adc adm A Q b i cells slots σ μ 628 [] := by
  refine lw_ao X dL_law_628 ?_
  refine lw_ld X (k := 1) (kn := 1) (by decide) (by omega) hL2 dL_law_629 dL_law_630 dL_law_631 dL_law_632 dL_law_633 ?_
  refine lw_ld X (k := 2) (kn := 2) (by decide) (by omega) hL2 dL_law_634 dL_law_635 dL_law_636 dL_law_637 dL_law_638 ?_
  refine lw_ld X (k := 3) (kn := 3) (by decide) (by omega) hL2 dL_law_639 dL_law_640 dL_law_641 dL_law_642 dL_law_643 ?_
  refine lw_cc X (as := [xs (i + 1), xs (i + 2), xs (i + 3)]) (st := []) ctX0_list rfl rfl ⟨by decide +kernel, by decide +kernel, by decide +kernel, by decide +kernel, by decide +kernel, by decide +kernel⟩ ⟨by decide, by decide⟩ rfl (rc_ok hR hV) (by decide) dL_law_644 (fun r u hpo => ?_)
  obtain ⟨hu, hr⟩ := hpo
  refine lw_am X dL_law_647 ?_
  refine lw_ld X (k := 1) (kn := 1) (by decide) (by omega) hL2 dL_law_648 dL_law_649 dL_law_650 dL_law_651 dL_law_652 ?_
  refine lw_ld X (k := 2) (kn := 2) (by decide) (by omega) hL2 dL_law_653 dL_law_654 dL_law_655 dL_law_656 dL_law_657 ?_
  refine lw_ld X (k := 3) (kn := 3) (by decide) (by omega) hL2 dL_law_658 dL_law_659 dL_law_660 dL_law_661 dL_law_662 ?_
  refine lw_cm X (as := [xs (i + 1), xs (i + 2), xs (i + 3)]) (st := [.int r]) ctX1_list rfl rfl ⟨by decide +kernel, by decide +kernel, by decide +kernel, by decide +kernel, by decide +kernel, by decide +kernel⟩ ⟨by decide, by decide⟩ rfl hV.1 (Nat.le_of_ble_eq_true rfl) dL_law_663 (fun r2 u2 hpo2 => ?_)
  obtain ⟨hu2, hr2⟩ := hpo2
  rw [hu, hu2, hr, hr2]
  exact lw_eq X (mv_list hR hV (xs (i + 1)) (xs (i + 2)) (xs (i + 3))).1 dL_law_666 (by decide) (next _ _ (mv_list hR hV (xs (i + 1)) (xs (i + 2)) (xs (i + 3))).2.1 (mv_list hR hV (xs (i + 1)) (xs (i + 2)) (xs (i + 3))).2.2)
set_option maxRecDepth 100000 in
set_option maxHeartbeats 4000000 in
theorem lc_show (X : lwC p R s m args c D cA cB adc adm A b L xs cells slots) (hR : RC σ μ) (hV : Inv μ) (hL : i + 3 < L) (hL2 : L ≤ 2048) (next : ∀ σ2 μ2 : mS, RC σ2 μ2 → Inv μ2 → lwW p l e R s m args below meth c D cA cB adc adm A Q b i cells slots σ2 μ2 790 []) : lwW p l e R s m args below meth c D cA cB adc adm A Q b i cells slots σ μ 671 [] := by
  refine lw_ao X dL_law_671 ?_
  refine lw_ld X (k := 1) (kn := 1) (by decide) (by omega) hL2 dL_law_672 dL_law_673 dL_law_674 dL_law_675 dL_law_676 ?_
  refine lw_ld X (k := 2) (kn := 2) (by decide) (by omega) hL2 dL_law_677 dL_law_678 dL_law_679 dL_law_680 dL_law_681 ?_
  refine lw_cc X (as := [xs (i + 1), xs (i + 2)]) (st := []) ctX0_show rfl rfl ⟨by decide +kernel, by decide +kernel, by decide +kernel, by decide +kernel, by decide +kernel, by decide +kernel⟩ ⟨by decide, by decide⟩ rfl (rc_ok hR hV) (by decide) dL_law_682 (fun r u hpo => ?_)
  obtain ⟨hu, hr⟩ := hpo
  refine lw_am X dL_law_685 ?_
  refine lw_ld X (k := 1) (kn := 1) (by decide) (by omega) hL2 dL_law_686 dL_law_687 dL_law_688 dL_law_689 dL_law_690 ?_
  refine lw_ld X (k := 2) (kn := 2) (by decide) (by omega) hL2 dL_law_691 dL_law_692 dL_law_693 dL_law_694 dL_law_695 ?_
  refine lw_cm X (as := [xs (i + 1), xs (i + 2)]) (st := [.int r]) ctX1_show rfl rfl ⟨by decide +kernel, by decide +kernel, by decide +kernel, by decide +kernel, by decide +kernel, by decide +kernel⟩ ⟨by decide, by decide⟩ rfl hV.1 (Nat.le_of_ble_eq_true rfl) dL_law_696 (fun r2 u2 hpo2 => ?_)
  obtain ⟨hu2, hr2⟩ := hpo2
  rw [hu, hu2, hr, hr2]
  exact lw_eq X (mv_show hR hV (xs (i + 1)) (xs (i + 2))).1 dL_law_699 (by decide) (next _ _ (mv_show hR hV (xs (i + 1)) (xs (i + 2))).2.1 (mv_show hR hV (xs (i + 1)) (xs (i + 2))).2.2)
set_option maxRecDepth 100000 in
set_option maxHeartbeats 4000000 in
theorem lc_shown (X : lwC p R s m args c D cA cB adc adm A b L xs cells slots) (hR : RC σ μ) (hV : Inv μ) (hL : i + 3 < L) (hL2 : L ≤ 2048) (next : ∀ σ2 μ2 : mS, RC σ2 μ2 → Inv μ2 → lwW p l e R s m args below meth c D cA cB adc adm A Q b i cells slots σ2 μ2 790 []) : lwW p l e R s m args below meth c D cA cB adc adm A Q b i cells slots σ μ 704 [] := by
  refine lw_ao X dL_law_704 ?_
  refine lw_ld X (k := 1) (kn := 1) (by decide) (by omega) hL2 dL_law_705 dL_law_706 dL_law_707 dL_law_708 dL_law_709 ?_
  refine lw_ld X (k := 2) (kn := 2) (by decide) (by omega) hL2 dL_law_710 dL_law_711 dL_law_712 dL_law_713 dL_law_714 ?_
  refine lw_ld X (k := 3) (kn := 3) (by decide) (by omega) hL2 dL_law_715 dL_law_716 dL_law_717 dL_law_718 dL_law_719 ?_
  refine lw_cc X (as := [xs (i + 1), xs (i + 2), xs (i + 3)]) (st := []) ctX0_shown rfl rfl ⟨by decide +kernel, by decide +kernel, by decide +kernel, by decide +kernel, by decide +kernel, by decide +kernel⟩ ⟨by decide, by decide⟩ rfl (rc_ok hR hV) (by decide) dL_law_720 (fun r u hpo => ?_)
  obtain ⟨hu, hr⟩ := hpo
  refine lw_am X dL_law_723 ?_
  refine lw_ld X (k := 1) (kn := 1) (by decide) (by omega) hL2 dL_law_724 dL_law_725 dL_law_726 dL_law_727 dL_law_728 ?_
  refine lw_ld X (k := 2) (kn := 2) (by decide) (by omega) hL2 dL_law_729 dL_law_730 dL_law_731 dL_law_732 dL_law_733 ?_
  refine lw_ld X (k := 3) (kn := 3) (by decide) (by omega) hL2 dL_law_734 dL_law_735 dL_law_736 dL_law_737 dL_law_738 ?_
  refine lw_cm X (as := [xs (i + 1), xs (i + 2), xs (i + 3)]) (st := [.int r]) ctX1_shown rfl rfl ⟨by decide +kernel, by decide +kernel, by decide +kernel, by decide +kernel, by decide +kernel, by decide +kernel⟩ ⟨by decide, by decide⟩ rfl hV.1 (Nat.le_of_ble_eq_true rfl) dL_law_739 (fun r2 u2 hpo2 => ?_)
  obtain ⟨hu2, hr2⟩ := hpo2
  rw [hu, hu2, hr, hr2]
  exact lw_eq X (eq_shown hR hV (xs (i + 1)) (xs (i + 2)) (xs (i + 3))) dL_law_742 (by decide) (next _ _ hR hV)
set_option maxRecDepth 100000 in
set_option maxHeartbeats 4000000 in
theorem lc_why (X : lwC p R s m args c D cA cB adc adm A b L xs cells slots) (hR : RC σ μ) (hV : Inv μ) (hL : i + 3 < L) (hL2 : L ≤ 2048) (next : ∀ σ2 μ2 : mS, RC σ2 μ2 → Inv μ2 → lwW p l e R s m args below meth c D cA cB adc adm A Q b i cells slots σ2 μ2 790 []) : lwW p l e R s m args below meth c D cA cB adc adm A Q b i cells slots σ μ 747 [] := by
  refine lw_ao X dL_law_747 ?_
  refine lw_ld X (k := 1) (kn := 1) (by decide) (by omega) hL2 dL_law_748 dL_law_749 dL_law_750 dL_law_751 dL_law_752 ?_
  refine lw_ld X (k := 2) (kn := 2) (by decide) (by omega) hL2 dL_law_753 dL_law_754 dL_law_755 dL_law_756 dL_law_757 ?_
  refine lw_ld X (k := 3) (kn := 3) (by decide) (by omega) hL2 dL_law_758 dL_law_759 dL_law_760 dL_law_761 dL_law_762 ?_
  refine lw_cc X (as := [xs (i + 1), xs (i + 2), xs (i + 3)]) (st := []) ctX0_why rfl rfl ⟨by decide +kernel, by decide +kernel, by decide +kernel, by decide +kernel, by decide +kernel, by decide +kernel⟩ ⟨by decide, by decide⟩ rfl (rc_ok hR hV) (by decide) dL_law_763 (fun r u hpo => ?_)
  obtain ⟨hu, hr⟩ := hpo
  refine lw_am X dL_law_766 ?_
  refine lw_ld X (k := 1) (kn := 1) (by decide) (by omega) hL2 dL_law_767 dL_law_768 dL_law_769 dL_law_770 dL_law_771 ?_
  refine lw_ld X (k := 2) (kn := 2) (by decide) (by omega) hL2 dL_law_772 dL_law_773 dL_law_774 dL_law_775 dL_law_776 ?_
  refine lw_ld X (k := 3) (kn := 3) (by decide) (by omega) hL2 dL_law_777 dL_law_778 dL_law_779 dL_law_780 dL_law_781 ?_
  refine lw_cm X (as := [xs (i + 1), xs (i + 2), xs (i + 3)]) (st := [.int r]) ctX1_why rfl rfl ⟨by decide +kernel, by decide +kernel, by decide +kernel, by decide +kernel, by decide +kernel, by decide +kernel⟩ ⟨by decide, by decide⟩ rfl hV.1 (Nat.le_of_ble_eq_true rfl) dL_law_782 (fun r2 u2 hpo2 => ?_)
  obtain ⟨hu2, hr2⟩ := hpo2
  rw [hu, hu2, hr, hr2]
  exact lw_eq X (eq_why hR hV (xs (i + 1)) (xs (i + 2)) (xs (i + 3))) dL_law_785 (by decide) (next _ _ (rc_why hR (xs (i + 1)) (xs (i + 2)) (xs (i + 3))) hV)
end LCASES
