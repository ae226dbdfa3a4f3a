/-! THE ABSTRACT MACHINE: a store of int fields (by slot) and int arrays (by number); a state is pc, locals, stack, store. References are numbers of cells: 0 is the object, 1 .. its arrays. -/
abbrev mS : Type := (Nat → Int32) × (Nat → Nat → Int32)
abbrev mT : Type := Nat × List (Option Value) × List Value × mS
/-- a callee: parameters, static, void, what it asks, what it gives -/
abbrev mC : Type := Nat × Bool × Bool × (mS → List Int32 → Prop) × (mS → List Int32 → Int32 → mS → Prop)
/-- a class's shape: which slot holds which array (none: an int), how many arrays, their lengths, which are arrays of arrays (their first row's number) -/
abbrev mH : Type := (Nat → Option Nat) × Nat × (Nat → Nat) × (Nat → Option Nat)
/-- a method's tables: pool index of a field to slot, of a constant to its value, of a method to callee -/
abbrev mK : Type := (Nat → Option Nat) × (Nat → Option Int32) × List (Nat × mC)
def mAt : List (Option Value) → Nat → Option Value
  | [], _ => none
  | a :: _, 0 => a
  | _ :: l, k + 1 => mAt l k
def mSet : List (Option Value) → Nat → Value → Option (List (Option Value))
  | [], _, _ => none
  | _ :: l, 0, v => some (some v :: l)
  | a :: l, k + 1, v => (mSet l k v).map (fun q => a :: q)
def mArgs : Nat → List Value → List Int32 → Option (List Int32 × List Value)
  | 0, st, acc => some (acc, st)
  | n + 1, .int x :: st, acc => mArgs n st (x :: acc)
  | _ + 1, _, _ => none
def mFind : List (Nat × mC) → Nat → Option mC
  | [], _ => none
  | q :: l, k => if k = q.1 then some q.2 else mFind l k
def mTg (pc : Nat) (off : Int) : Nat := ((pc : Int) + off).toNat
def up2 (g : Nat → Nat → Int32) (a i : Nat) (x : Int32) : Nat → Nat → Int32 := fun b => if b = a then upd (g b) i x else g b
def mIsA (h : mH) (a : Nat) : Prop := (1 ≤ a ∧ a ≤ h.2.1) ∧ h.2.2.2 a = none
def mJ (X : mT → Prop) (pc : Nat) (off : Int) (lv : List (Option Value)) (st : List Value) (σ : mS) : Prop := 0 ≤ (pc : Int) + off ∧ X (mTg pc off, lv, st, σ)
def mLdI (X : mT → Prop) (pc : Nat) (lv : List (Option Value)) (st : List Value) (σ : mS) (j : Nat) : Prop := match mAt lv j with
  | some (.int x) => X (pc, lv, .int x :: st, σ)
  | _ => False
def mLdA (X : mT → Prop) (pc : Nat) (lv : List (Option Value)) (st : List Value) (σ : mS) (j : Nat) : Prop := match mAt lv j with
  | some (.ref x) => X (pc, lv, .ref x :: st, σ)
  | _ => False
def mStI (X : mT → Prop) (pc : Nat) (lv : List (Option Value)) (st : List Value) (σ : mS) (j : Nat) : Prop := match st with
  | .int x :: st' => (match mSet lv j (.int x) with
    | some lv' => X (pc, lv', st', σ)
    | none => False)
  | _ => False
def mInc (X : mT → Prop) (pc : Nat) (lv : List (Option Value)) (st : List Value) (σ : mS) (j : Nat) (k : Int32) : Prop := match mAt lv j with
  | some (.int x) => (match mSet lv j (.int (x + k)) with
    | some lv' => X (pc, lv', st, σ)
    | none => False)
  | _ => False
def mBin (X : mT → Prop) (pc : Nat) (lv : List (Option Value)) (st : List Value) (σ : mS) (f : Int32 → Int32 → Int32) : Prop := match st with
  | .int y :: .int x :: st' => X (pc, lv, .int (f x y) :: st', σ)
  | _ => False
def mDiv (X : mT → Prop) (pc : Nat) (lv : List (Option Value)) (st : List Value) (σ : mS) (f : Int32 → Int32 → Int32) : Prop := match st with
  | .int y :: .int x :: st' => ¬ y = 0 ∧ X (pc, lv, .int (f x y) :: st', σ)
  | _ => False
def mBr (X : mT → Prop) (pc : Nat) (off : Int) (lv : List (Option Value)) (st : List Value) (σ : mS) (c : Prop) : Prop := 0 ≤ (pc : Int) + off ∧ (c → X (mTg pc off, lv, st, σ)) ∧ (¬ c → X (pc + 3, lv, st, σ))
def mIf1 (X : mT → Prop) (pc : Nat) (off : Int) (lv : List (Option Value)) (st : List Value) (σ : mS) (c : Int32 → Prop) : Prop := match st with
  | .int x :: st' => mBr X pc off lv st' σ (c x)
  | _ => False
def mIf2 (X : mT → Prop) (pc : Nat) (off : Int) (lv : List (Option Value)) (st : List Value) (σ : mS) (c : Int32 → Int32 → Prop) : Prop := match st with
  | .int y :: .int x :: st' => mBr X pc off lv st' σ (c x y)
  | _ => False
def mIfN1 (X : mT → Prop) (pc : Nat) (off : Int) (lv : List (Option Value)) (st : List Value) (σ : mS) : Prop := match st with
  | .int x :: st' => 0 ≤ (pc : Int) + off ∧ (x = 0 → X (pc + 3, lv, st', σ)) ∧ (¬ x = 0 → X (mTg pc off, lv, st', σ))
  | _ => False
def mIfN2 (X : mT → Prop) (pc : Nat) (off : Int) (lv : List (Option Value)) (st : List Value) (σ : mS) : Prop := match st with
  | .int y :: .int x :: st' => 0 ≤ (pc : Int) + off ∧ (x = y → X (pc + 3, lv, st', σ)) ∧ (¬ x = y → X (mTg pc off, lv, st', σ))
  | _ => False
def mFv (h : mH) (σ : mS) (s : Nat) : Value := match h.1 s with
  | some a => .ref a
  | none => .int (σ.1 s)
def mGet (h : mH) (k : mK) (X : mT → Prop) (pc : Nat) (lv : List (Option Value)) (st : List Value) (σ : mS) (j : Nat) : Prop := match st with
  | .ref 0 :: st' => (match k.1 j with
    | some s => X (pc, lv, mFv h σ s :: st', σ)
    | none => False)
  | _ => False
def mPut (h : mH) (k : mK) (X : mT → Prop) (pc : Nat) (lv : List (Option Value)) (st : List Value) (σ : mS) (j : Nat) : Prop := match st with
  | .int x :: .ref 0 :: st' => (match k.1 j with
    | some s => h.1 s = none ∧ X (pc, lv, st', (upd σ.1 s x, σ.2))
    | none => False)
  | _ => False
def mLdE (h : mH) (X : mT → Prop) (pc : Nat) (lv : List (Option Value)) (st : List Value) (σ : mS) : Prop := match st with
  | .int i :: .ref a :: st' => mIsA h a ∧ vp_in i (h.2.2.1 a) ∧ X (pc, lv, .int (σ.2 a i.toNatClampNeg) :: st', σ)
  | _ => False
def mStE (h : mH) (X : mT → Prop) (pc : Nat) (lv : List (Option Value)) (st : List Value) (σ : mS) : Prop := match st with
  | .int x :: .int i :: .ref a :: st' => mIsA h a ∧ vp_in i (h.2.2.1 a) ∧ X (pc, lv, st', (σ.1, up2 σ.2 a i.toNatClampNeg x))
  | _ => False
def mLdR (h : mH) (X : mT → Prop) (pc : Nat) (lv : List (Option Value)) (st : List Value) (σ : mS) : Prop := match st with
  | .int i :: .ref a :: st' => (match h.2.2.2 a with
    | some b => (1 ≤ a ∧ a ≤ h.2.1) ∧ vp_in i (h.2.2.1 a) ∧ X (pc, lv, .ref (b + i.toNatClampNeg) :: st', σ)
    | none => False)
  | _ => False
def mKon (k : mK) (X : mT → Prop) (pc : Nat) (lv : List (Option Value)) (st : List Value) (σ : mS) (j : Nat) : Prop := match k.2.1 j with
  | some v => X (pc, lv, .int v :: st, σ)
  | none => False
def mDup (X : mT → Prop) (pc : Nat) (lv : List (Option Value)) (st : List Value) (σ : mS) : Prop := match st with
  | v :: st' => X (pc, lv, v :: v :: st', σ)
  | _ => False
def mDup2 (X : mT → Prop) (pc : Nat) (lv : List (Option Value)) (st : List Value) (σ : mS) : Prop := match st with
  | v :: w :: st' => X (pc, lv, v :: w :: v :: w :: st', σ)
  | _ => False
def mTab (X : mT → Prop) (pc : Nat) (lv : List (Option Value)) (st : List Value) (σ : mS) (x : Int32) : Int → List Int → Prop
  | _, [] => True
  | lo, o :: os => (x.toInt = lo → mJ X pc o lv st σ) ∧ mTab X pc lv st σ x (lo + 1) os
def mTsw (X : mT → Prop) (pc : Nat) (lv : List (Option Value)) (st : List Value) (σ : mS) (d lo hi : Int) (os : List Int) : Prop := match st with
  | .int x :: st' => (hi - lo + 1).toNat = os.length ∧ (x.toInt < lo ∨ hi < x.toInt → mJ X pc d lv st' σ) ∧ mTab X pc lv st' σ x lo os
  | _ => False
def mLk (X : mT → Prop) (pc : Nat) (lv : List (Option Value)) (st : List Value) (σ : mS) (x : Int32) (d : Int) : List (Int × Int) → Prop
  | [] => mJ X pc d lv st σ
  | q :: r => (x.toInt = q.1 → mJ X pc q.2 lv st σ) ∧ (¬ x.toInt = q.1 → mLk X pc lv st σ x d r)
def mLsw (X : mT → Prop) (pc : Nat) (lv : List (Option Value)) (st : List Value) (σ : mS) (d : Int) (ps : List (Int × Int)) : Prop := match st with
  | .int x :: st' => (ps.zip (ps.drop 1)).all (fun (a, next) => a.1 < next.1) = true ∧ mLk X pc lv st' σ x d ps
  | _ => False
def mAft (X : mT → Prop) (pc : Nat) (lv : List (Option Value)) (st : List Value) (vd : Bool) (r : Int32) (σ : mS) : Prop := X (pc, lv, (bif vd then st else .int r :: st), σ)
def mCaV (k : mK) (X : mT → Prop) (pc : Nat) (lv : List (Option Value)) (st : List Value) (σ : mS) (j : Nat) : Prop := match mFind k.2.2 j with
  | some (np, false, vd, pre, post) => (match mArgs np st [] with
    | some (xs, .ref 0 :: st') => st'.length ≤ 8 ∧ pre σ xs ∧ ∀ r σ', post σ xs r σ' → mAft X pc lv st' vd r σ'
    | _ => False)
  | _ => False
def mCaS (k : mK) (X : mT → Prop) (pc : Nat) (lv : List (Option Value)) (st : List Value) (σ : mS) (j : Nat) : Prop := match mFind k.2.2 j with
  | some (np, true, vd, pre, post) => (match mArgs np st [] with
    | some (xs, st') => st'.length ≤ 8 ∧ pre σ xs ∧ ∀ r σ', post σ xs r σ' → mAft X pc lv st' vd r σ'
    | _ => False)
  | _ => False
def mRetI (bl : Nat) (Q : Int32 → mS → Prop) (st : List Value) (σ : mS) : Prop := match st with
  | [.int v] => (bl = 0 ∨ bl = 1 ∧ (v = 0 ∨ v = 1)) ∧ Q v σ
  | _ => False
def mRetV (bl : Nat) (Q : Int32 → mS → Prop) (st : List Value) (σ : mS) : Prop := match st with
  | [] => bl = 2 ∧ Q 0 σ
  | _ => False
def mIns (h : mH) (k : mK) (bl : Nat) (Q : Int32 → mS → Prop) (X : mT → Prop) (pc : Nat) (lv : List (Option Value)) (st : List Value) (σ : mS) (i : Instr) (n : Nat) : Prop := match i, n with
  | .iconst v, 1 => X (pc + 1, lv, .int (Int32.ofInt v) :: st, σ)
  | .bipush v, 2 => X (pc + 2, lv, .int (Int8.ofInt v).toInt32 :: st, σ)
  | .sipush v, 3 => X (pc + 3, lv, .int (Int16.ofInt v).toInt32 :: st, σ)
  | .ldc j, 2 => mKon k X (pc + 2) lv st σ j
  | .ldc_w j, 3 => mKon k X (pc + 3) lv st σ j
  | .iload_n j, 1 => mLdI X (pc + 1) lv st σ j.val
  | .iload j, 2 => mLdI X (pc + 2) lv st σ j
  | .aload_n j, 1 => mLdA X (pc + 1) lv st σ j.val
  | .istore_n j, 1 => mStI X (pc + 1) lv st σ j.val
  | .istore j, 2 => mStI X (pc + 2) lv st σ j
  | .iinc j v, 3 => mInc X (pc + 3) lv st σ j (Int32.ofInt v)
  | .iadd, 1 => mBin X (pc + 1) lv st σ (fun x y => x + y)
  | .isub, 1 => mBin X (pc + 1) lv st σ (fun x y => x - y)
  | .imul, 1 => mBin X (pc + 1) lv st σ (fun x y => x * y)
  | .iand, 1 => mBin X (pc + 1) lv st σ (fun x y => x &&& y)
  | .ior, 1 => mBin X (pc + 1) lv st σ (fun x y => x ||| y)
  | .ixor, 1 => mBin X (pc + 1) lv st σ (fun x y => x ^^^ y)
  | .ishl, 1 => mBin X (pc + 1) lv st σ (fun x y => x <<< (y &&& 31))
  | .ishr, 1 => mBin X (pc + 1) lv st σ (fun x y => x >>> (y &&& 31))
  | .iushr, 1 => mBin X (pc + 1) lv st σ (fun x y => (x.toUInt32 >>> (y.toUInt32 &&& Int32.toUInt32 31)).toInt32)
  | .idiv, 1 => mDiv X (pc + 1) lv st σ (fun x y => x / y)
  | .irem, 1 => mDiv X (pc + 1) lv st σ (fun x y => x - x / y * y)
  | .ifCond .eq off, 3 => mIf1 X pc off lv st σ (fun x => x = 0)
  | .ifCond .ne off, 3 => mIfN1 X pc off lv st σ
  | .ifCond .lt off, 3 => mIf1 X pc off lv st σ (fun x => x < 0)
  | .ifCond .ge off, 3 => mIf1 X pc off lv st σ (fun x => 0 ≤ x)
  | .ifCond .gt off, 3 => mIf1 X pc off lv st σ (fun x => 0 < x)
  | .ifCond .le off, 3 => mIf1 X pc off lv st σ (fun x => x ≤ 0)
  | .if_icmp .eq off, 3 => mIf2 X pc off lv st σ (fun x y => x = y)
  | .if_icmp .ne off, 3 => mIfN2 X pc off lv st σ
  | .if_icmp .lt off, 3 => mIf2 X pc off lv st σ (fun x y => x < y)
  | .if_icmp .ge off, 3 => mIf2 X pc off lv st σ (fun x y => y ≤ x)
  | .if_icmp .gt off, 3 => mIf2 X pc off lv st σ (fun x y => y < x)
  | .if_icmp .le off, 3 => mIf2 X pc off lv st σ (fun x y => x ≤ y)
  | .goto off, 3 => mJ X pc off lv st σ
  | .dup, 1 => mDup X (pc + 1) lv st σ
  | .dup2, 1 => mDup2 X (pc + 1) lv st σ
  | .getfield j, 3 => mGet h k X (pc + 3) lv st σ j
  | .putfield j, 3 => mPut h k X (pc + 3) lv st σ j
  | .iaload, 1 => mLdE h X (pc + 1) lv st σ
  | .iastore, 1 => mStE h X (pc + 1) lv st σ
  | .aaload, 1 => mLdR h X (pc + 1) lv st σ
  | .tableswitch d lo hi os, _ => mTsw X pc lv st σ d lo hi os.toList
  | .lookupswitch d ps, _ => mLsw X pc lv st σ d ps.toList
  | .invokevirtual j, 3 => mCaV k X (pc + 3) lv st σ j
  | .invokestatic j, 3 => mCaS k X (pc + 3) lv st σ j
  | .ireturn, 1 => mRetI bl Q st σ
  | .return_, 1 => mRetV bl Q st σ
  | _, _ => False
def mStep (h : mH) (k : mK) (cc : ByteArray) (bl : Nat) (Q : Int32 → mS → Prop) (X : mT → Prop) (S : mT) : Prop := match decode cc S.1 with
  | .ok (i, n) => mIns h k bl Q X S.1 S.2.1 S.2.2.1 S.2.2.2 i n
  | _ => False
/-- the same under a name that nothing unfolds -/
theorem mStep_ex : ∃ f : mH → mK → ByteArray → Nat → (Int32 → mS → Prop) → (mT → Prop) → mT → Prop, f = mStep := ⟨_, rfl⟩
noncomputable def mStepO : mH → mK → ByteArray → Nat → (Int32 → mS → Prop) → (mT → Prop) → mT → Prop := Classical.choose mStep_ex
theorem mStepO_eq : mStepO = mStep := Classical.choose_spec mStep_ex
def mCut : List Nat → Nat → Bool
  | [], _ => false
  | a :: l, k => (k == a) || mCut l k
/-- n steps, but none from a state whose pc is cut -/
noncomputable def mRun (h : mH) (k : mK) (cc : ByteArray) (bl : Nat) (Q : Int32 → mS → Prop) (X : mT → Prop) (cuts : List Nat) : Nat → mT → Prop
  | 0, S => X S
  | n + 1, S => bif mCut cuts S.1 then X S else mStepO h k cc bl Q (mRun h k cc bl Q X cuts n) S
