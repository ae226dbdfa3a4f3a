section MRUN
variable {h : mH} {k : mK} {bl : Nat} {cc : ByteArray} {Q : Int32 → mS → Prop} {X Y : mT → Prop} {pc : Nat} {off : Int} {lv : List (Option Value)} {st : List Value} {σ : mS}
theorem mJ_mono (f : ∀ S, Y S → X S) : mJ Y pc off lv st σ → mJ X pc off lv st σ := fun q => ⟨q.1, f _ q.2⟩
theorem mLdI_mono (f : ∀ S, Y S → X S) {j : Nat} : mLdI Y pc lv st σ j → mLdI X pc lv st σ j := by
  unfold mLdI; split
  · exact f _
  · exact id
theorem mLdA_mono (f : ∀ S, Y S → X S) {j : Nat} : mLdA Y pc lv st σ j → mLdA X pc lv st σ j := by
  unfold mLdA; split
  · exact f _
  · exact id
theorem mStI_mono (f : ∀ S, Y S → X S) {j : Nat} : mStI Y pc lv st σ j → mStI X pc lv st σ j := by
  unfold mStI; split
  · split
    · exact f _
    · exact id
  · exact id
theorem mInc_mono (f : ∀ S, Y S → X S) {j : Nat} {v : Int32} : mInc Y pc lv st σ j v → mInc X pc lv st σ j v := by
  unfold mInc; split
  · split
    · exact f _
    · exact id
  · exact id
theorem mBin_mono (f : ∀ S, Y S → X S) {g : Int32 → Int32 → Int32} : mBin Y pc lv st σ g → mBin X pc lv st σ g := by
  unfold mBin; split
  · exact f _
  · exact id
theorem mDiv_mono (f : ∀ S, Y S → X S) {g : Int32 → Int32 → Int32} : mDiv Y pc lv st σ g → mDiv X pc lv st σ g := by
  unfold mDiv; split
  · exact fun q => ⟨q.1, f _ q.2⟩
  · exact id
theorem mIf1_mono (f : ∀ S, Y S → X S) {g : Int32 → Prop} : mIf1 Y pc off lv st σ g → mIf1 X pc off lv st σ g := by
  unfold mIf1; split
  · exact fun q => ⟨q.1, fun z => f _ (q.2.1 z), fun z => f _ (q.2.2 z)⟩
  · exact id
theorem mIf2_mono (f : ∀ S, Y S → X S) {g : Int32 → Int32 → Prop} : mIf2 Y pc off lv st σ g → mIf2 X pc off lv st σ g := by
  unfold mIf2; split
  · exact fun q => ⟨q.1, fun z => f _ (q.2.1 z), fun z => f _ (q.2.2 z)⟩
  · exact id
theorem mIfN1_mono (f : ∀ S, Y S → X S) : mIfN1 Y pc off lv st σ → mIfN1 X pc off lv st σ := by
  unfold mIfN1; split
  · exact fun q => ⟨q.1, fun z => f _ (q.2.1 z), fun z => f _ (q.2.2 z)⟩
  · exact id
theorem mIfN2_mono (f : ∀ S, Y S → X S) : mIfN2 Y pc off lv st σ → mIfN2 X pc off lv st σ := by
  unfold mIfN2; split
  · exact fun q => ⟨q.1, fun z => f _ (q.2.1 z), fun z => f _ (q.2.2 z)⟩
  · exact id
theorem mGet_mono (f : ∀ S, Y S → X S) {j : Nat} : mGet h k Y pc lv st σ j → mGet h k X pc lv st σ j := by
  unfold mGet; split
  · split
    · exact f _
    · exact id
  · exact id
theorem mPut_mono (f : ∀ S, Y S → X S) {j : Nat} : mPut h k Y pc lv st σ j → mPut h k X pc lv st σ j := by
  unfold mPut; split
  · split
    · exact fun q => ⟨q.1, f _ q.2⟩
    · exact id
  · exact id
theorem mLdE_mono (f : ∀ S, Y S → X S) : mLdE h Y pc lv st σ → mLdE h X pc lv st σ := by
  unfold mLdE; split
  · exact fun q => ⟨q.1, q.2.1, f _ q.2.2⟩
  · exact id
theorem mStE_mono (f : ∀ S, Y S → X S) : mStE h Y pc lv st σ → mStE h X pc lv st σ := by
  unfold mStE; split
  · exact fun q => ⟨q.1, q.2.1, f _ q.2.2⟩
  · exact id
theorem mLdR_mono (f : ∀ S, Y S → X S) : mLdR h Y pc lv st σ → mLdR h X pc lv st σ := by
  unfold mLdR; split
  · split
    · exact fun q => ⟨q.1, q.2.1, f _ q.2.2⟩
    · exact id
  · exact id
theorem mKon_mono (f : ∀ S, Y S → X S) {j : Nat} : mKon k Y pc lv st σ j → mKon k X pc lv st σ j := by
  unfold mKon; split
  · exact f _
  · exact id
theorem mDup_mono (f : ∀ S, Y S → X S) : mDup Y pc lv st σ → mDup X pc lv st σ := by
  unfold mDup; split
  · exact f _
  · exact id
theorem mDup2_mono (f : ∀ S, Y S → X S) : mDup2 Y pc lv st σ → mDup2 X pc lv st σ := by
  unfold mDup2; split
  · exact f _
  · exact id
theorem mTab_mono (f : ∀ S, Y S → X S) {x : Int32} : ∀ (os : List Int) (lo : Int), mTab Y pc lv st σ x lo os → mTab X pc lv st σ x lo os
  | [], _, q => q
  | _ :: os, lo, q => ⟨fun z => mJ_mono f (q.1 z), mTab_mono f os (lo + 1) q.2⟩
theorem mTsw_mono (f : ∀ S, Y S → X S) {d lo hi : Int} {os : List Int} : mTsw Y pc lv st σ d lo hi os → mTsw X pc lv st σ d lo hi os := by
  unfold mTsw; split
  · exact fun q => ⟨q.1, fun z => mJ_mono f (q.2.1 z), mTab_mono f _ _ q.2.2⟩
  · exact id
theorem mLk_mono (f : ∀ S, Y S → X S) {x : Int32} {d : Int} : ∀ (ps : List (Int × Int)), mLk Y pc lv st σ x d ps → mLk X pc lv st σ x d ps
  | [], q => mJ_mono f q
  | _ :: ps, q => ⟨fun z => mJ_mono f (q.1 z), fun z => mLk_mono f ps (q.2 z)⟩
theorem mLsw_mono (f : ∀ S, Y S → X S) {d : Int} {ps : List (Int × Int)} : mLsw Y pc lv st σ d ps → mLsw X pc lv st σ d ps := by
  unfold mLsw; split
  · exact fun q => ⟨q.1, mLk_mono f _ q.2⟩
  · exact id
theorem mCaV_mono (f : ∀ S, Y S → X S) {j : Nat} : mCaV k Y pc lv st σ j → mCaV k X pc lv st σ j := by
  unfold mCaV; split
  · split
    · exact fun q => ⟨q.1, q.2.1, fun r u z => f _ (q.2.2 r u z)⟩
    · exact id
  · exact id
theorem mCaS_mono (f : ∀ S, Y S → X S) {j : Nat} : mCaS k Y pc lv st σ j → mCaS k X pc lv st σ j := by
  unfold mCaS; split
  · split
    · exact fun q => ⟨q.1, q.2.1, fun r u z => f _ (q.2.2 r u z)⟩
    · exact id
  · exact id
set_option maxHeartbeats 4000000 in
theorem mIns_mono (f : ∀ S, Y S → X S) {i : Instr} {n : Nat} : mIns h k bl Q Y pc lv st σ i n → mIns h k bl Q X pc lv st σ i n := by
  unfold mIns
  split <;> first | exact f _ | exact mKon_mono f | exact mLdI_mono f | exact mLdA_mono f | exact mStI_mono f | exact mInc_mono f | exact mBin_mono f | exact mDiv_mono f | exact mIf1_mono f | exact mIf2_mono f | exact mIfN1_mono f | exact mIfN2_mono f | exact mJ_mono f | exact mDup_mono f | exact mDup2_mono f | exact mGet_mono f | exact mPut_mono f | exact mLdE_mono f | exact mStE_mono f | exact mLdR_mono f | exact mTsw_mono f | exact mLsw_mono f | exact mCaV_mono f | exact mCaS_mono f | exact id
theorem mStep_mono (f : ∀ S, Y S → X S) {S : mT} : mStep h k cc bl Q Y S → mStep h k cc bl Q X S := by
  unfold mStep
  split
  · exact mIns_mono f
  · exact id
theorem mRun_go (hX : mGo h k cc bl Q X) (cuts : List Nat) : ∀ (n : Nat) (S : mT), mRun h k cc bl Q X cuts n S → X S
  | 0, _, q => q
  | n + 1, S, q => by
    unfold mRun at q
    cases hc : mCut cuts S.1 with
    | true => rw [hc] at q; exact q
    | false =>
      rw [hc, mStepO_eq] at q
      exact hX.1 S (mStep_mono (mRun_go hX cuts n) q)
/-- walk on: a step, then n more, up to the cuts -/
theorem mWalk (hX : mGo h k cc bl Q X) (cuts : List Nat) (n : Nat) {S : mT} (q : mStepO h k cc bl Q (mRun h k cc bl Q X cuts n) S) : X S := hX.1 S (mStep_mono (mRun_go hX cuts n) (by rw [← mStepO_eq]; exact q))
end MRUN
theorem mCal_nil {h : mH} {ci N : Nat} {cl : List vw_C} {C own : String} {d : Nat} : ∀ j cs, mFind [] j = some cs → mOK h ci N cl C own d j cs := fun j cs q => by simp [mFind] at q
theorem mCal_cons {h : mH} {ci N : Nat} {cl : List vw_C} {C own : String} {d j0 : Nat} {c0 : mC} {r : List (Nat × mC)} (h0 : mOK h ci N cl C own d j0 c0) (hr : ∀ j cs, mFind r j = some cs → mOK h ci N cl C own d j cs) : ∀ j cs, mFind ((j0, c0) :: r) j = some cs → mOK h ci N cl C own d j cs := fun j cs q => by
  unfold mFind at q
  by_cases e : j = j0
  · subst e
    rw [if_pos rfl] at q
    cases q
    exact h0
  · rw [if_neg e] at q
    exact hr j cs q
/-- a loop whose head's state is known by its counter -/
theorem mFor {X : mT → Prop} (n : Nat) (S : Nat → mT) (hend : X (S n)) (hstep : ∀ i, i < n → X (S (i + 1)) → X (S i)) : ∀ i, i ≤ n → X (S i) := by
  have key : ∀ (d i : Nat), i + d = n → X (S i) := by
    intro d
    induction d with
    | zero => intro i hi; rw [show i = n by omega]; exact hend
    | succ d ih => intro i hi; exact hstep i (by omega) (ih (i + 1) (by omega))
  intro i hi
  exact key (n - i) i (by omega)
