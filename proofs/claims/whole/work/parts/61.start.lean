/-! THE LAW'S START: what the Statement gives, and (in fsEx) what it doesn't -/
def R_law : String := "BasketHouseLaw"
def lw_P (b : Addr) (xs : List Int32) (args : Array Value) (s : State) : Prop := args = #[.ref b] ∧ s.IntsAt b xs ∧ xs.length ≤ 2048 ∧ (Jvm.Cond.and given_1 narrow_1).before args s = true
def lw_Q (_ : Array Value) (s : State) (o : Outcome) (t : State) : Prop := o = .returned (some (.int 1)) ∧ Framed s o t [] 600000 7302250
def lw_Z (below : List Frame) (a : Array Value) (s : State) : State → Prop := fun t => ∃ o, t.status = .running ∧ Ended t below o ∧ lw_Q a s o t
theorem lw_ret {p : Program} {l : Launch} {e : Env} {s : State} {m : MethodId} {below : List Frame} {meth : Method} {c : Code} {b : Nat} (hx : p.tables.exec = Jvm.exec) (hb : c.code = code) (hr : meth.sig.returnType = ret) (hlocks : meth.locks = false) {pc : Nat} {H : Heap} {ls : Array Slot} (hdg : decode code pc = .ok (.ireturn, 1)) : W p l e room_1 s m #[Value.ref b] below meth c H [] 600000 7302250 (lw_Z below #[Value.ref b] s) (F0 m pc ls [.int 1]) := by
  intro T hT X
  obtain ⟨fs, hret, hrun, hended, hW, hframe⟩ := X.leave (v := some (.int 1)) (hlocks := hlocks) (fun h => by rw [hr] at h; cases h)
  have hmeth' : T.vm.method? m = some meth := X.method'
  refine ⟨T.setFrames fs, ?_, .returned (some (.int 1)), hrun, hended, rfl, ⟨_, rfl⟩, hW, hframe⟩
  jvm_step X.here [X.here.top, hx, hb, hdg, hmeth', hr, ret, narrow_b1]
  (try refine ⟨rfl, ?_⟩); (try refine ⟨rfl, ?_⟩)
  first | (intro acts; rw [hret _ acts rfl rfl rfl]) | rw [hret _ _ rfl rfl rfl]
  exact Steps.refl _
def lw_At (p : Program) (s : State) (m : MethodId) (meth : Method) (c : Code) (b L : Nat) (xs : Nat → Int32) : Prop :=
  p.tables.exec = Jvm.exec ∧ c.code = code ∧ meth.sig.returnType = ret ∧ c.maxLocals = 4 ∧ s.vm.findClass R_law = some m.cls ∧ (∀ w ∈ lw_tbl, w.before #[Value.ref b] s = true) ∧ va_X b L xs s s.heap ∧ b < s.heap.size ∧ meth.locks = false ∧ (Jvm.Cond.and given_1 narrow_1).before #[Value.ref b] s = true
/-- WHAT THE STATEMENT LACKS: the row of the first settings is of the very class called [I -/
def fsEx : Cond := Cond.exactly (.static "BasketHouse" "FIRST_SETTINGS" "[I") "[I"
section STAT
variable {s : State} {a : Array Value} {A : Nat → Prop}
theorem st_gs (hts : ∀ w ∈ lw_tbl, w.before a s = true) (hgv : (Jvm.Cond.and given_1 narrow_1).before a s = true) (hA : ∀ q : Nat, q < s.heap.size → ¬ A q) : gsZ A s := by
  have hs := flat_of_before _ hgv
  obtain ⟨t, h1, h2⟩ := va_Tof (tm := .static "BasketHouse" "GREATEST_SETTINGS" "[I") (ty := .int) (N := 4) (f := fun j => .int (gsT j)) (A := A) (by decide) (hs _ (by decide +kernel)) (va_eqt (z := 4) (hs _ (by decide +kernel))) (fun j hj => by
    match j, hj with
    | 0, _ => exact va_eqt (z := 4) (hs (.eq (.elem (.static "BasketHouse" "GREATEST_SETTINGS" "[I") (.int 0)) (.int 4)) (by decide +kernel))
    | 1, _ => exact va_eqt (z := 5) (hs (.eq (.elem (.static "BasketHouse" "GREATEST_SETTINGS" "[I") (.int 1)) (.int 5)) (by decide +kernel))
    | 2, _ => exact va_eqt (z := 9) (hs (.eq (.elem (.static "BasketHouse" "GREATEST_SETTINGS" "[I") (.int 2)) (.int 9)) (by decide +kernel))
    | 3, _ => exact va_eqt (z := 9) (hs (.eq (.elem (.static "BasketHouse" "GREATEST_SETTINGS" "[I") (.int 3)) (.int 9)) (by decide +kernel))
    | j + 4, h => exact absurd h (by omega)) hA
  exact ⟨t, va_Zref (hts _ (by decide +kernel)) (hts _ (by decide +kernel)) h1 hA, h2⟩
def fsT (j : Nat) : Int32 := if j = 0 then 2 else if j = 1 then 2 else 3
theorem st_fs {cA : ClassId} (hts : ∀ w ∈ lw_tbl, w.before a s = true) (hgv : (Jvm.Cond.and given_1 narrow_1).before a s = true) (hA : ∀ q : Nat, q < s.heap.size → ¬ A q) (hcA : s.vm.findClass "[I" = some cA) (hex : fsEx.before a s = true) : fsZ cA A s := by
  have hs := flat_of_before _ hgv
  have hlen : (Term.length (.static "BasketHouse" "FIRST_SETTINGS" "[I")).eval a s none [] s = some (.int 4) := va_eqt (z := 4) (hs _ (by decide +kernel))
  obtain ⟨t, h1, h2⟩ := va_Tof (tm := .static "BasketHouse" "FIRST_SETTINGS" "[I") (ty := .int) (N := 4) (f := fun j => .int (fsT j)) (A := A) (by decide) (hs _ (by decide +kernel)) hlen (fun j hj => by
    match j, hj with
    | 0, _ => exact va_eqt (z := 2) (hs (.eq (.elem (.static "BasketHouse" "FIRST_SETTINGS" "[I") (.int 0)) (.int 2)) (by decide +kernel))
    | 1, _ => exact va_eqt (z := 2) (hs (.eq (.elem (.static "BasketHouse" "FIRST_SETTINGS" "[I") (.int 1)) (.int 2)) (by decide +kernel))
    | 2, _ => exact va_eqt (z := 3) (hs (.eq (.elem (.static "BasketHouse" "FIRST_SETTINGS" "[I") (.int 2)) (.int 3)) (by decide +kernel))
    | 3, _ => exact va_eqt (z := 3) (hs (.eq (.elem (.static "BasketHouse" "FIRST_SETTINGS" "[I") (.int 3)) (.int 3)) (by decide +kernel))
    | j + 4, h => exact absurd h (by omega)) hA
  obtain ⟨cell, g1, g2, g3, g4, g5, g6, g7⟩ := h2
  obtain ⟨t', c', cell', k', x1, x2, x3, x4, x5, x6, -⟩ := Cond.exactly_spec hex
  cases h1.symm.trans x1
  cases g1.symm.trans x3
  cases hcA.symm.trans x2
  obtain ⟨t2, cell2, y1, y2, y3⟩ := Term.length_spec hlen
  cases h1.symm.trans y1
  have hsz : cell.slots.size = 4 := by
    have hc2 := (State.arrayAt?_spec y2).1
    cases g1.symm.trans hc2
    have hv := hlen
    simp only [Term.eval, Option.bind_eq_bind] at hv
    have hx : (Term.static "BasketHouse" "FIRST_SETTINGS" "[I").eval a s none [] s = some (.ref t) := h1
    simp only [Term.eval, Option.bind_eq_bind] at hx
    rw [hx] at hv
    simp only [Option.bind_some, y2] at hv
    by_cases hlt : cell.slots.size < 2147483648
    · rw [if_pos hlt] at hv
      have h9 : Int32.ofNat cell.slots.size = Int32.ofNat 4 := by
        have := Option.some.inj hv
        exact Value.int.inj this
      have h10 := congrArg Int32.toInt h9
      rw [Int32.toInt_ofNat_small hlt, Int32.toInt_ofNat_small (by decide)] at h10
      exact Int.ofNat.inj h10
    · rw [if_neg hlt] at hv
      cases hv
  refine ⟨t, cell, va_Zref (hts _ (by decide +kernel)) (hts _ (by decide +kernel)) h1 hA, g1, x6, g2.1, g3, ?_, g7⟩
  apply Array.ext_getElem?
  intro i
  match i with
  | 0 => exact g6 0 (by omega)
  | 1 => exact g6 1 (by omega)
  | 2 => exact g6 2 (by omega)
  | 3 => exact g6 3 (by omega)
  | i + 4 =>
    rw [Array.getElem?_eq_none (by omega)]
    rfl
theorem fsZ_call {cA : ClassId} {B : Nat → Prop} {U : State} {H : Heap} {locs : List Loc} (h : fsZ cA A s) (hS : va_S A s.heap H locs) (hBA : ∀ q, B q → A q) (hvm : s.vm.Alike U.vm) (hU : U.heap = H) : fsZ cA B U := by
  obtain ⟨t0, c0, h1, h2, h3, h4, h5, h6, h7⟩ := h
  refine ⟨t0, c0, ?_, ?_, h3, h4, h5, h6, fun q => h7 (hBA _ q)⟩
  · rw [hU]
    exact va_Z.moved hvm ((h1.kept hS.2.1).narrow hBA)
  · rw [hU, hS.2.1 t0 (Array.getElem?_eq_some_iff.mp h2).1 h7]
    exact h2
/-- the two classes and the two classes of rows are known -/
theorem st_K (hts : ∀ w ∈ lw_tbl, w.before a s = true) : ∃ (D : va_G) (cA cB : ClassId), va_K D vwC [(cA, .int), (cB, .array .int)] s := by
  have hts' : ∀ w ∈ gW, w.before a s = true := fun w hw => hts w (List.mem_filter.mp hw).1
  obtain ⟨c0, i0, h0⟩ := u_known (C := RX0) (T := TX0) (N := 15) (n := 15) hts' usX0 (hts' (.instantiable RX0 15) (by decide +kernel))
  obtain ⟨c1, i1, h1⟩ := u_known (C := RX1) (T := TX1) (N := 20) (n := 20) hts' usX1 (hts' (.instantiable RX1 20) (by decide +kernel))
  obtain ⟨cA, kA, comp, g1, g2, g3⟩ := Cond.arrayClass_spec (hts (.arrayClass .int) (by decide +kernel))
  obtain ⟨compB, cB, kB, -, f2, f3, f4⟩ := Cond.arrayOver_specA (hts (.arrayOver (.array .int)) (by decide +kernel))
  refine ⟨(fun k => if k = 0 then c0 else c1, fun k => if k = 0 then i0 else i1), cA, cB, ?_, ?_⟩
  · intro k q hq
    match k, hq with
    | 0, hq => cases hq; exact h0
    | 1, hq => cases hq; exact h1
    | k + 2, hq => simp [vwC] at hq
  · intro k q hq
    match k, hq with
    | 0, hq => cases hq; exact ⟨fun N z => ⟨(fun q hq => by cases hq), kA, g2, comp, g3⟩, g1⟩
    | 1, hq => cases hq; exact ⟨fun N z => ⟨(fun q hq => by cases hq), kB, f2, compB, f3⟩, f4⟩
    | k + 2, hq => simp at hq
end STAT
