section LWW
variable {p : Program} {l : Launch} {e : Env} {R : Room} {s : State} {m : MethodId} {args : Array Value} {below : List Frame} {meth : Method} {c : Code}
variable {D : va_G} {cA cB : ClassId} {adc adm : Nat → Nat} {A : Nat → Prop} {Q : State → Prop} {b L i cells slots : Nat} {xs : Nat → Int32} {σ μ : mS} {pc : Nat} {st : List Value}
/-- the law's machine between its own instructions: both objects stand, the script's counter is i -/
def lwW (p : Program) (l : Launch) (e : Env) (R : Room) (s : State) (m : MethodId) (args : Array Value) (below : List Frame) (meth : Method) (c : Code) (D : va_G) (cA cB : ClassId) (adc adm : Nat → Nat) (A : Nat → Prop) (Q : State → Prop) (b i cells slots : Nat) (σ μ : mS) (pc : Nat) (st : List Value) : Prop :=
  ∀ (H : Heap) (locs : List Loc) (ls : Array Slot), va_P D vwC (mWs hX0 0 15 cA cB adc σ) H → va_P D vwC (mWs hX1 1 20 cA cB adm μ) H → va_D A (mWs hX0 0 15 cA cB adc σ) → va_D A (mWs hX1 1 20 cA cB adm μ) → va_S A s.heap H locs → lv_has ls 4 [(0, .ref b), (1, .ref (adc 0)), (2, .ref (adm 0)), (3, .int (nI i))] → W p l e R s m args below meth c H locs cells slots Q (F0 m pc ls st)
/-- what the law's body knows throughout -/
def lwC (p : Program) (R : Room) (s : State) (m : MethodId) (args : Array Value) (c : Code) (D : va_G) (cA cB : ClassId) (adc adm : Nat → Nat) (A : Nat → Prop) (b L : Nat) (xs : Nat → Int32) (cells slots : Nat) : Prop :=
  p.tables.exec = Jvm.exec ∧ c.code = cL_law ∧ c.maxLocals = 4 ∧ s.vm.findClass RL = some m.cls ∧ (∀ w ∈ gW, w.before args s = true) ∧ va_K D vwC [(cA, .int), (cB, .array .int)] s ∧ (∀ q : Nat, s.heap.size ≤ q → A q) ∧ va_X b L xs s s.heap ∧ b < s.heap.size ∧ ¬ A b ∧ (cells ≤ R.cells ∧ slots ≤ R.slots) ∧ (8 ≤ R.frames ∧ 300 ≤ R.locals) ∧ (∀ (σ μ : mS) (i k : Nat) (x z : Nat × va_E), (mWs hX0 0 15 cA cB adc σ)[i]? = some x → (mWs hX1 1 20 cA cB adm μ)[k]? = some z → x.1 ≠ z.1)
theorem lw_ld (X : lwC p R s m args c D cA cB adc adm A b L xs cells slots) {k : Int} {kn : Nat} (hk : Int32.ofInt k = nI kn) (hL : i + kn < L) (hL2 : L ≤ 2048) (d1 : decode cL_law pc = .ok (.aload_n 0, 1)) (d2 : decode cL_law (pc + 1) = .ok (.iload_n 3, 1)) (d3 : decode cL_law (pc + 1 + 1) = .ok (.iconst k, 1)) (d4 : decode cL_law (pc + 1 + 1 + 1) = .ok (.iadd, 1)) (d5 : decode cL_law (pc + 1 + 1 + 1 + 1) = .ok (.iaload, 1))
    (hw : lwW p l e R s m args below meth c D cA cB adc adm A Q b i cells slots σ μ (pc + 5) (.int (xs (i + kn)) :: st)) : lwW p l e R s m args below meth c D cA cB adc adm A Q b i cells slots σ μ pc st := by
  obtain ⟨hx, hb, hml, hown, hts, hK, hA, hX, hbl, hbA, -⟩ := X
  intro H locs ls hP hP2 hD hD2 hS hl
  refine lv_aload_n hx hb d1 rfl (lv_at hl 0 rfl) ?_
  refine lv_iload_n hx hb d2 rfl (lv_at hl 3 rfl) ?_
  refine lv_iconst hx hb d3 hk ?_
  refine lv_iadd hx hb d4 ?_
  rw [nI_add]
  refine va_sld hx hb hX hbl hbA hS (vp_in_nI hL (by omega)) d5 ?_
  rw [nI_clamp (by omega)]
  exact hw H locs ls hP hP2 hD hD2 hS hl
theorem lw_ao (X : lwC p R s m args c D cA cB adc adm A b L xs cells slots) (d1 : decode cL_law pc = .ok (.aload_n 1, 1)) (hw : lwW p l e R s m args below meth c D cA cB adc adm A Q b i cells slots σ μ (pc + 1) (.ref (adc 0) :: st)) : lwW p l e R s m args below meth c D cA cB adc adm A Q b i cells slots σ μ pc st :=
  fun H locs ls hP hP2 hD hD2 hS hl => lv_aload_n X.1 X.2.1 d1 rfl (lv_at hl 1 rfl) (hw H locs ls hP hP2 hD hD2 hS hl)
theorem lw_am (X : lwC p R s m args c D cA cB adc adm A b L xs cells slots) (d1 : decode cL_law pc = .ok (.aload_n 2, 1)) (hw : lwW p l e R s m args below meth c D cA cB adc adm A Q b i cells slots σ μ (pc + 1) (.ref (adm 0) :: st)) : lwW p l e R s m args below meth c D cA cB adc adm A Q b i cells slots σ μ pc st :=
  fun H locs ls hP hP2 hD hD2 hS hl => lv_aload_n X.1 X.2.1 d1 rfl (lv_at hl 2 rfl) (hw H locs ls hP hP2 hD hD2 hS hl)
/-- 'v != 0' as the law has it -/
theorem lw_nz (X : lwC p R s m args c D cA cB adc adm A b L xs cells slots) {v : Int32} (d1 : decode cL_law pc = .ok (.ifCond .eq 7, 3)) (d2 : decode cL_law (pc + 3) = .ok (.iconst 1, 1)) (d3 : decode cL_law (pc + 3 + 1) = .ok (.goto 4, 3)) (d4 : decode cL_law (pc + 7) = .ok (.iconst 0, 1)) (hw : lwW p l e R s m args below meth c D cA cB adc adm A Q b i cells slots σ μ (pc + 8) (.int (if v = 0 then 0 else 1) :: st)) : lwW p l e R s m args below meth c D cA cB adc adm A Q b i cells slots σ μ pc (.int v :: st) := by
  intro H locs ls hP hP2 hD hD2 hS hl
  refine lv_if_eq (tgt := pc + 7) X.1 X.2.1 d1 (by omega) (fun q => ?_) (fun q => ?_)
  · refine lv_iconst (v := 0) X.1 X.2.1 d4 (by decide) ?_
    rw [if_pos q] at hw
    exact hw H locs ls hP hP2 hD hD2 hS hl
  · refine lv_iconst (v := 1) X.1 X.2.1 d2 (by decide) ?_
    refine lv_goto (tgt := pc + 8) X.1 X.2.1 d3 (by omega) ?_
    rw [if_neg q] at hw
    exact hw H locs ls hP hP2 hD hD2 hS hl
/-- a call of the class -/
theorem lw_cc (X : lwC p R s m args c D cA cB adc adm A b L xs cells slots) {y : MethodName} {cc' : ByteArray} {maxL d j : Nat} {ret : Option FieldType} {cs : mC} {as : List Int32} (hct : mCt hX0 0 15 vwC y cc' maxL ret d cs) (hst : cs.2.1 = false) (hvd : cs.2.2.1 = false) (hw1 : lwM y cc' maxL ret RL RX0 j cs.1) (hd : d ≤ 7 ∧ maxL ≤ 16) (hlen : as.length = cs.1) (hpre : cs.2.2.2.1 σ as) (hrest : (st.map fun v => v.category).sum ≤ 8) (hdg : decode cL_law pc = .ok (.invokevirtual j, 3))
    (hw : ∀ (r : Int32) (u : mS), cs.2.2.2.2 σ as r u → lwW p l e R s m args below meth c D cA cB adc adm A Q b i cells slots u μ (pc + 3) (.int r :: st)) : lwW p l e R s m args below meth c D cA cB adc adm A Q b i cells slots σ μ pc ((as.map Value.int).reverse ++ .ref (adc 0) :: st) := by
  obtain ⟨hx, hb, hml, hown, hts, hK, hA, -, -, -, hcs, hR, hdis⟩ := X
  intro H locs ls hP hP2 hD hD2 hS hl
  exact lw_callV (T := TX0) hx hb hml hown hts hct hst hvd hw1 ⟨by omega, by omega⟩ rfl hK hP hD hS hA hlen hpre hrest hl.1 hcs hdg (fun r u H1 locs1 hpo hP1 hD1 hk1 hS1 => hw r u hpo H1 locs1 ls hP1 (lw_keep hP2 (hdis σ μ) hk1) hD1 hD2 hS1 hl)
/-- a call of the model -/
theorem lw_cm (X : lwC p R s m args c D cA cB adc adm A b L xs cells slots) {y : MethodName} {cc' : ByteArray} {maxL d j : Nat} {ret : Option FieldType} {cs : mC} {as : List Int32} (hct : mCt hX1 1 20 vwC y cc' maxL ret d cs) (hst : cs.2.1 = false) (hvd : cs.2.2.1 = false) (hw1 : lwM y cc' maxL ret RL RX1 j cs.1) (hd : d ≤ 7 ∧ maxL ≤ 16) (hlen : as.length = cs.1) (hpre : cs.2.2.2.1 μ as) (hrest : (st.map fun v => v.category).sum ≤ 8) (hdg : decode cL_law pc = .ok (.invokevirtual j, 3))
    (hw : ∀ (r : Int32) (u : mS), cs.2.2.2.2 μ as r u → lwW p l e R s m args below meth c D cA cB adc adm A Q b i cells slots σ u (pc + 3) (.int r :: st)) : lwW p l e R s m args below meth c D cA cB adc adm A Q b i cells slots σ μ pc ((as.map Value.int).reverse ++ .ref (adm 0) :: st) := by
  obtain ⟨hx, hb, hml, hown, hts, hK, hA, -, -, -, hcs, hR, hdis⟩ := X
  intro H locs ls hP hP2 hD hD2 hS hl
  exact lw_callV (T := TX1) hx hb hml hown hts hct hst hvd hw1 ⟨by omega, by omega⟩ rfl hK hP2 hD2 hS hA hlen hpre hrest hl.1 hcs hdg (fun r u H1 locs1 hpo hP1 hD1 hk1 hS1 => hw r u hpo H1 locs1 ls (lw_keep hP (fun i k x z hx hz q => hdis σ μ k i z x hz hx q.symm) hk1) hP1 hD hD1 hS1 hl)
/-- the answers agree -/
theorem lw_eq (X : lwC p R s m args c D cA cB adc adm A b L xs cells slots) {r r2 : Int32} {off : Int} {tgt : Nat} (hrr : r = r2) (d1 : decode cL_law pc = .ok (.if_icmp .eq off, 3)) (ht : (pc : Int) + off = (tgt : Int)) (hw : lwW p l e R s m args below meth c D cA cB adc adm A Q b i cells slots σ μ tgt st) : lwW p l e R s m args below meth c D cA cB adc adm A Q b i cells slots σ μ pc (.int r2 :: .int r :: st) :=
  fun H locs ls hP hP2 hD hD2 hS hl => lv_icmp_eq X.1 X.2.1 d1 ht (fun _ => hw H locs ls hP hP2 hD hD2 hS hl) (fun q => absurd hrr q)
end LWW
