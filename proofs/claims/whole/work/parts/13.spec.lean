/-! WHAT THE METHODS ANSWER, as functions of the arrays and numbers that they read -/
def hB (s x : Int32) : Bool := decide ((s >>> (x &&& 31)) &&& 1 = 1)
def cN (p : Nat → Bool) : Nat → Nat
  | 0 => 0
  | n + 1 => cN p n + (bif p n then 1 else 0)
def anyN (p : Nat → Bool) : Nat → Bool
  | 0 => false
  | n + 1 => anyN p n || p n
def allN (p : Nat → Bool) : Nat → Bool
  | 0 => true
  | n + 1 => allN p n && p n
def orN (f : Nat → Int32) : Nat → Int32
  | 0 => 0
  | n + 1 => orN f n ||| f n
def smN (f : Nat → Int32) : Nat → Int32
  | 0 => 0
  | n + 1 => smN f n + f n
def isInF (v lo hi : Int32) : Bool := decide (lo ≤ v) && decide (v ≤ hi)
def bothF (st : Nat → Int32) (n : Nat) (a b : Int32) : Int32 := nI (cN (fun i => hB (st i) a && hB (st i) b) n)
def peopF (st ow : Nat → Int32) (n : Nat) (a b : Int32) : Int32 := nI (cN (fun p => anyN (fun i => decide (ow i = nI p) && (hB (st i) a && hB (st i) b)) n) 8)
def kinF (st ow : Nat → Int32) (n : Nat) (nb grp a b : Int32) : Int32 := if bothF st n a a = 0 ∨ bothF st n b b = 0 ∨ peopF st ow n a b < grp then 0 else 1000 * bothF st n a b * nb / (bothF st n a a * bothF st n b b) - 1000
def takF (st ow : Nat → Int32) (n : Nat) (p : Int32) : Int32 := orN (fun i => if ow i = p then st i else 0) n
def scoF (kin : Int32 → Int32 → Int32) (tk : Int32) (t : Nat) (x : Int32) : Int32 := smN (fun j => if ¬ nI j = x ∧ hB tk (nI j) = true then kin x (nI j) else 0) t
def newF (came : Nat → Int32) (day : Int32) (t : Nat) : Int32 := orN (fun x => if day - came x < 10 then 1 <<< (nI x &&& 31) else 0) t
def mayF (td : Nat → Int32) (day s0 : Int32) : Nat → Int32
  | 0 => s0
  | n + 1 => if day < td n then mayF td day s0 n &&& ((1 <<< (nI n &&& 31)) ^^^ (-1)) else mayF td day s0 n
def bstF (f : Int32 → Int32) (s : Int32) : Nat → Int32
  | 0 => -1
  | n + 1 => if hB s (nI n) = true ∧ (bstF f s n = -1 ∨ f (bstF f s n) < f (nI n)) then nI n else bstF f s n
def bitF (v : Int32) : Int32 := smN (fun k => (v >>> (nI k &&& 31)) &&& 1) 12
def keepF (sort rule : Nat → Int32) (spread : Int32) (t : Nat) (set : Int32) : Bool := allN (fun s => ! decide (spread < nI (cN (fun x => hB set (nI x) && decide (sort x = nI s)) t))) 4 && allN (fun x => ! (hB set (nI x) && ! decide (rule x &&& set = 0))) t
def sumF (w : Nat → Int32) (t : Nat) (set : Int32) : Int32 := smN (fun x => if hB set (nI x) = true then w x else 0) t
/-- one set tried for a list: (best, its sum) -/
def lstS (may k need : Int32) (keep : Int32 → Bool) (sum : Int32 → Int32) (set : Int32) (b : Int32 × Int32) : Int32 × Int32 :=
  if set &&& (may ^^^ (-1)) = 0 ∧ bitF set ≤ k ∧ bitF b.1 ≤ bitF set ∧ (need = 0 ∨ ¬ set &&& need = 0) ∧ keep set = true ∧ ¬ (bitF set = bitF b.1 ∧ sum set ≤ b.2) then (set, sum set) else b
/-- all sets 1 .. n tried -/
def lstF (may k need : Int32) (keep : Int32 → Bool) (sum : Int32 → Int32) : Nat → Int32 × Int32
  | 0 => (0, 0)
  | n + 1 => lstS may k need keep sum (nI (n + 1)) (lstF may k need keep sum n)
/-- baskets i .. i + n - 1 moved down by one -/
def shF (f : Nat → Int32) (i : Nat) : Nat → (Nat → Int32)
  | 0 => f
  | n + 1 => upd (shF f i n) (i + n) (shF f i n (i + n + 1))
/-! the model's store -/
def mTn (σ : mS) : Nat := (σ.1 0).toNatClampNeg
def mBn (σ : mS) : Nat := (σ.1 2).toNatClampNeg
def mKin (σ : mS) (a b : Int32) : Int32 := kinF (σ.2 6) (σ.2 4) (mBn σ) (σ.1 2) (σ.1 3) a b
def mTak (σ : mS) (p : Int32) : Int32 := takF (σ.2 6) (σ.2 4) (mBn σ) p
def mSco (σ : mS) (p x : Int32) : Int32 := scoF (mKin σ) (mTak σ p) (mTn σ) x
def mNew (σ : mS) : Int32 := newF (σ.2 2) (σ.1 1) (mTn σ)
def mMay (σ : mS) (p : Int32) : Int32 := mayF (fun x => σ.2 9 (12 * p.toNatClampNeg + x)) (σ.1 1) (σ.1 7 &&& (mTak σ p ^^^ (-1))) (mTn σ)
def mKeep (σ : mS) (set : Int32) : Bool := keepF (σ.2 1) (σ.2 3) (σ.1 4) (mTn σ) set
def mNeed (σ : mS) (p : Int32) : Int32 := if (σ.2 7 p.toNatClampNeg + 1) - (σ.2 7 p.toNatClampNeg + 1) / σ.1 5 * σ.1 5 = 0 then mMay σ p &&& mNew σ else 0
def mLst (σ : mS) (p k : Int32) : Int32 × Int32 := lstF (mMay σ p) k (mNeed σ p) (mKeep σ) (sumF (fun x => mSco σ p (nI x)) (mTn σ)) (2 ^ mTn σ - 1)
/-- the model's store is sound: how many things and baskets, whose the baskets are, the numbers that divide -/
def mOk (σ : mS) : Prop := (σ.1 0 = nI (mTn σ) ∧ mTn σ ≤ 12) ∧ (σ.1 2 = nI (mBn σ) ∧ mBn σ ≤ 60) ∧ (∀ i, i < mBn σ → ∃ p, p < 8 ∧ σ.2 4 i = nI p) ∧ ¬ σ.1 5 = 0
