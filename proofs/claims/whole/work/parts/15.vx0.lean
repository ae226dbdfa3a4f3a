def mJ1 (X : mT → Prop) (tg nx : Nat) (lv : List (Option Value)) (st : List Value) (σ : mS) (c : Int32 → Prop) : Prop := match st with
  | .int x :: st' => (c x → X (tg, lv, st', σ)) ∧ (¬ c x → X (nx, lv, st', σ))
  | _ => False
def mJ2 (X : mT → Prop) (tg nx : Nat) (lv : List (Option Value)) (st : List Value) (σ : mS) (c : Int32 → Int32 → Prop) : Prop := match st with
  | .int y :: .int x :: st' => (c x y → X (tg, lv, st', σ)) ∧ (¬ c x y → X (nx, lv, st', σ))
  | _ => False
def mN1 (X : mT → Prop) (tg nx : Nat) (lv : List (Option Value)) (st : List Value) (σ : mS) : Prop := match st with
  | .int x :: st' => (x = 0 → X (nx, lv, st', σ)) ∧ (¬ x = 0 → X (tg, lv, st', σ))
  | _ => False
def mN2 (X : mT → Prop) (tg nx : Nat) (lv : List (Option Value)) (st : List Value) (σ : mS) : Prop := match st with
  | .int y :: .int x :: st' => (x = y → X (nx, lv, st', σ)) ∧ (¬ x = y → X (tg, lv, st', σ))
  | _ => False
theorem mStep_d {h : mH} {k : mK} {cc : ByteArray} {bl : Nat} {Q : Int32 → mS → Prop} {X : mT → Prop} {pc : Nat} {lv : List (Option Value)} {st : List Value} {σ : mS} {i : Instr} {n : Nat} (hd : decode cc pc = .ok (i, n)) : mStepO h k cc bl Q X (pc, lv, st, σ) = mIns h k bl Q X pc lv st σ i n := by
  rw [mStepO_eq]
  unfold mStep
  simp only [hd]
theorem mIf1_J {X : mT → Prop} {pc tg : Nat} {off : Int} {lv : List (Option Value)} {st : List Value} {σ : mS} {c : Int32 → Prop} (ht : mTg pc off = tg) (hp : (0 ≤ (pc : Int) + off) = True) : mIf1 X pc off lv st σ c = mJ1 X tg (pc + 3) lv st σ c := by
  unfold mIf1 mJ1 mBr
  simp only [ht, hp, true_and]
  rfl
theorem mIf2_J {X : mT → Prop} {pc tg : Nat} {off : Int} {lv : List (Option Value)} {st : List Value} {σ : mS} {c : Int32 → Int32 → Prop} (ht : mTg pc off = tg) (hp : (0 ≤ (pc : Int) + off) = True) : mIf2 X pc off lv st σ c = mJ2 X tg (pc + 3) lv st σ c := by
  unfold mIf2 mJ2 mBr
  simp only [ht, hp, true_and]
  rfl
theorem mIfN1_J {X : mT → Prop} {pc tg : Nat} {off : Int} {lv : List (Option Value)} {st : List Value} {σ : mS} (ht : mTg pc off = tg) (hp : (0 ≤ (pc : Int) + off) = True) : mIfN1 X pc off lv st σ = mN1 X tg (pc + 3) lv st σ := by
  unfold mIfN1 mN1
  simp only [ht, hp, true_and]
  rfl
theorem mIfN2_J {X : mT → Prop} {pc tg : Nat} {off : Int} {lv : List (Option Value)} {st : List Value} {σ : mS} (ht : mTg pc off = tg) (hp : (0 ≤ (pc : Int) + off) = True) : mIfN2 X pc off lv st σ = mN2 X tg (pc + 3) lv st σ := by
  unfold mIfN2 mN2
  simp only [ht, hp, true_and]
  rfl
theorem mJ_J {X : mT → Prop} {pc tg : Nat} {off : Int} {lv : List (Option Value)} {st : List Value} {σ : mS} (ht : mTg pc off = tg) (hp : (0 ≤ (pc : Int) + off) = True) : mJ X pc off lv st σ = X (tg, lv, st, σ) := by
  unfold mJ
  simp only [ht, hp, true_and]
section MROWS
variable (h : mH) (k : mK) (bl : Nat) (Q : Int32 → mS → Prop) (Y : mT → Prop) (lv : List (Option Value)) (st : List Value) (σ : mS)
theorem vX0_thing_0 : mStepO h k cX0_thing bl Q Y (0, lv, st, σ) = (mLdI Y 1 lv st σ 1) := mStep_d dX0_thing_0
theorem vX0_thing_1 : mStepO h k cX0_thing bl Q Y (1, lv, st, σ) = (mJ1 Y 18 4 lv st σ (fun x => x < 0)) := (mStep_d dX0_thing_1).trans (mIf1_J jt_1_17 jp_1_17)
theorem vX0_thing_4 : mStepO h k cX0_thing bl Q Y (4, lv, st, σ) = (mLdI Y 5 lv st σ 1) := mStep_d dX0_thing_4
theorem vX0_thing_5 : mStepO h k cX0_thing bl Q Y (5, lv, st, σ) = (Y (6, lv, .int (4) :: st, σ)) := by rw [mStep_d dX0_thing_5, ← mx_c4]; rfl
theorem vX0_thing_6 : mStepO h k cX0_thing bl Q Y (6, lv, st, σ) = (mJ2 Y 18 9 lv st σ (fun x y => y ≤ x)) := (mStep_d dX0_thing_6).trans (mIf2_J jt_6_12 jp_6_12)
theorem vX0_thing_9 : mStepO h k cX0_thing bl Q Y (9, lv, st, σ) = (mLdA Y 10 lv st σ 0) := mStep_d dX0_thing_9
theorem vX0_thing_10 : mStepO h k cX0_thing bl Q Y (10, lv, st, σ) = (mGet h k Y 13 lv st σ 53) := mStep_d dX0_thing_10
theorem vX0_thing_13 : mStepO h k cX0_thing bl Q Y (13, lv, st, σ) = (Y (15, lv, .int (12) :: st, σ)) := by rw [mStep_d dX0_thing_13, ← mx_b12]; rfl
theorem vX0_thing_15 : mStepO h k cX0_thing bl Q Y (15, lv, st, σ) = (mJ2 Y 20 18 lv st σ (fun x y => x < y)) := (mStep_d dX0_thing_15).trans (mIf2_J jt_15_5 jp_15_5)
theorem vX0_thing_18 : mStepO h k cX0_thing bl Q Y (18, lv, st, σ) = (Y (19, lv, .int (-1) :: st, σ)) := by rw [mStep_d dX0_thing_18, ← mx_cm1]; rfl
theorem vX0_thing_19 : mStepO h k cX0_thing bl Q Y (19, lv, st, σ) = (mRetI bl Q st σ) := mStep_d dX0_thing_19
theorem vX0_thing_20 : mStepO h k cX0_thing bl Q Y (20, lv, st, σ) = (mLdA Y 21 lv st σ 0) := mStep_d dX0_thing_20
theorem vX0_thing_21 : mStepO h k cX0_thing bl Q Y (21, lv, st, σ) = (mGet h k Y 24 lv st σ 53) := mStep_d dX0_thing_21
theorem vX0_thing_24 : mStepO h k cX0_thing bl Q Y (24, lv, st, σ) = (mStI Y 25 lv st σ 2) := mStep_d dX0_thing_24
theorem vX0_thing_25 : mStepO h k cX0_thing bl Q Y (25, lv, st, σ) = (mLdA Y 26 lv st σ 0) := mStep_d dX0_thing_25
theorem vX0_thing_26 : mStepO h k cX0_thing bl Q Y (26, lv, st, σ) = (mDup Y 27 lv st σ) := mStep_d dX0_thing_26
theorem vX0_thing_27 : mStepO h k cX0_thing bl Q Y (27, lv, st, σ) = (mGet h k Y 30 lv st σ 53) := mStep_d dX0_thing_27
theorem vX0_thing_30 : mStepO h k cX0_thing bl Q Y (30, lv, st, σ) = (Y (31, lv, .int (1) :: st, σ)) := by rw [mStep_d dX0_thing_30, ← mx_c1]; rfl
theorem vX0_thing_31 : mStepO h k cX0_thing bl Q Y (31, lv, st, σ) = (mBin Y 32 lv st σ (fun x y => x + y)) := mStep_d dX0_thing_31
theorem vX0_thing_32 : mStepO h k cX0_thing bl Q Y (32, lv, st, σ) = (mPut h k Y 35 lv st σ 53) := mStep_d dX0_thing_32
theorem vX0_thing_35 : mStepO h k cX0_thing bl Q Y (35, lv, st, σ) = (mLdA Y 36 lv st σ 0) := mStep_d dX0_thing_35
theorem vX0_thing_36 : mStepO h k cX0_thing bl Q Y (36, lv, st, σ) = (mGet h k Y 39 lv st σ 21) := mStep_d dX0_thing_36
theorem vX0_thing_39 : mStepO h k cX0_thing bl Q Y (39, lv, st, σ) = (mLdI Y 40 lv st σ 2) := mStep_d dX0_thing_39
theorem vX0_thing_40 : mStepO h k cX0_thing bl Q Y (40, lv, st, σ) = (mLdA Y 41 lv st σ 0) := mStep_d dX0_thing_40
theorem vX0_thing_41 : mStepO h k cX0_thing bl Q Y (41, lv, st, σ) = (mGet h k Y 44 lv st σ 57) := mStep_d dX0_thing_41
theorem vX0_thing_44 : mStepO h k cX0_thing bl Q Y (44, lv, st, σ) = (mStE h Y 45 lv st σ) := mStep_d dX0_thing_44
theorem vX0_thing_45 : mStepO h k cX0_thing bl Q Y (45, lv, st, σ) = (mLdA Y 46 lv st σ 0) := mStep_d dX0_thing_45
theorem vX0_thing_46 : mStepO h k cX0_thing bl Q Y (46, lv, st, σ) = (mGet h k Y 49 lv st σ 24) := mStep_d dX0_thing_46
theorem vX0_thing_49 : mStepO h k cX0_thing bl Q Y (49, lv, st, σ) = (mLdI Y 50 lv st σ 1) := mStep_d dX0_thing_49
theorem vX0_thing_50 : mStepO h k cX0_thing bl Q Y (50, lv, st, σ) = (mDup2 Y 51 lv st σ) := mStep_d dX0_thing_50
theorem vX0_thing_51 : mStepO h k cX0_thing bl Q Y (51, lv, st, σ) = (mLdE h Y 52 lv st σ) := mStep_d dX0_thing_51
theorem vX0_thing_52 : mStepO h k cX0_thing bl Q Y (52, lv, st, σ) = (Y (53, lv, .int (1) :: st, σ)) := by rw [mStep_d dX0_thing_52, ← mx_c1]; rfl
theorem vX0_thing_53 : mStepO h k cX0_thing bl Q Y (53, lv, st, σ) = (mLdI Y 54 lv st σ 2) := mStep_d dX0_thing_53
theorem vX0_thing_54 : mStepO h k cX0_thing bl Q Y (54, lv, st, σ) = (mBin Y 55 lv st σ (fun x y => x <<< (y &&& 31))) := mStep_d dX0_thing_54
theorem vX0_thing_55 : mStepO h k cX0_thing bl Q Y (55, lv, st, σ) = (mBin Y 56 lv st σ (fun x y => x ||| y)) := mStep_d dX0_thing_55
theorem vX0_thing_56 : mStepO h k cX0_thing bl Q Y (56, lv, st, σ) = (mStE h Y 57 lv st σ) := mStep_d dX0_thing_56
theorem vX0_thing_57 : mStepO h k cX0_thing bl Q Y (57, lv, st, σ) = (mLdA Y 58 lv st σ 0) := mStep_d dX0_thing_57
theorem vX0_thing_58 : mStepO h k cX0_thing bl Q Y (58, lv, st, σ) = (mDup Y 59 lv st σ) := mStep_d dX0_thing_58
theorem vX0_thing_59 : mStepO h k cX0_thing bl Q Y (59, lv, st, σ) = (mGet h k Y 62 lv st σ 60) := mStep_d dX0_thing_59
theorem vX0_thing_62 : mStepO h k cX0_thing bl Q Y (62, lv, st, σ) = (Y (63, lv, .int (1) :: st, σ)) := by rw [mStep_d dX0_thing_62, ← mx_c1]; rfl
theorem vX0_thing_63 : mStepO h k cX0_thing bl Q Y (63, lv, st, σ) = (mLdI Y 64 lv st σ 2) := mStep_d dX0_thing_63
theorem vX0_thing_64 : mStepO h k cX0_thing bl Q Y (64, lv, st, σ) = (mBin Y 65 lv st σ (fun x y => x <<< (y &&& 31))) := mStep_d dX0_thing_64
theorem vX0_thing_65 : mStepO h k cX0_thing bl Q Y (65, lv, st, σ) = (mBin Y 66 lv st σ (fun x y => x ||| y)) := mStep_d dX0_thing_65
theorem vX0_thing_66 : mStepO h k cX0_thing bl Q Y (66, lv, st, σ) = (mPut h k Y 69 lv st σ 60) := mStep_d dX0_thing_66
theorem vX0_thing_69 : mStepO h k cX0_thing bl Q Y (69, lv, st, σ) = (mLdI Y 70 lv st σ 2) := mStep_d dX0_thing_69
theorem vX0_thing_70 : mStepO h k cX0_thing bl Q Y (70, lv, st, σ) = (mRetI bl Q st σ) := mStep_d dX0_thing_70
theorem vX0_stock_0 : mStepO h k cX0_stock bl Q Y (0, lv, st, σ) = (mLdA Y 1 lv st σ 0) := mStep_d dX0_stock_0
theorem vX0_stock_1 : mStepO h k cX0_stock bl Q Y (1, lv, st, σ) = (mLdI Y 2 lv st σ 1) := mStep_d dX0_stock_1
theorem vX0_stock_2 : mStepO h k cX0_stock bl Q Y (2, lv, st, σ) = (mCaV k Y 5 lv st σ 63) := mStep_d dX0_stock_2
theorem vX0_stock_5 : mStepO h k cX0_stock bl Q Y (5, lv, st, σ) = (mJ1 Y 20 8 lv st σ (fun x => x = 0)) := (mStep_d dX0_stock_5).trans (mIf1_J jt_5_15 jp_5_15)
theorem vX0_stock_8 : mStepO h k cX0_stock bl Q Y (8, lv, st, σ) = (mLdA Y 9 lv st σ 0) := mStep_d dX0_stock_8
theorem vX0_stock_9 : mStepO h k cX0_stock bl Q Y (9, lv, st, σ) = (mGet h k Y 12 lv st σ 60) := mStep_d dX0_stock_9
theorem vX0_stock_12 : mStepO h k cX0_stock bl Q Y (12, lv, st, σ) = (mLdI Y 13 lv st σ 1) := mStep_d dX0_stock_12
theorem vX0_stock_13 : mStepO h k cX0_stock bl Q Y (13, lv, st, σ) = (mCaS k Y 16 lv st σ 67) := mStep_d dX0_stock_13
theorem vX0_stock_16 : mStepO h k cX0_stock bl Q Y (16, lv, st, σ) = (mLdI Y 17 lv st σ 2) := mStep_d dX0_stock_16
theorem vX0_stock_17 : mStepO h k cX0_stock bl Q Y (17, lv, st, σ) = (mN2 Y 22 20 lv st σ) := (mStep_d dX0_stock_17).trans (mIfN2_J jt_17_5 jp_17_5)
theorem vX0_stock_20 : mStepO h k cX0_stock bl Q Y (20, lv, st, σ) = (Y (21, lv, .int (0) :: st, σ)) := by rw [mStep_d dX0_stock_20, ← mx_c0]; rfl
theorem vX0_stock_21 : mStepO h k cX0_stock bl Q Y (21, lv, st, σ) = (mRetI bl Q st σ) := mStep_d dX0_stock_21
theorem vX0_stock_22 : mStepO h k cX0_stock bl Q Y (22, lv, st, σ) = (mLdA Y 23 lv st σ 0) := mStep_d dX0_stock_22
theorem vX0_stock_23 : mStepO h k cX0_stock bl Q Y (23, lv, st, σ) = (mDup Y 24 lv st σ) := mStep_d dX0_stock_23
theorem vX0_stock_24 : mStepO h k cX0_stock bl Q Y (24, lv, st, σ) = (mGet h k Y 27 lv st σ 60) := mStep_d dX0_stock_24
theorem vX0_stock_27 : mStepO h k cX0_stock bl Q Y (27, lv, st, σ) = (Y (28, lv, .int (1) :: st, σ)) := by rw [mStep_d dX0_stock_27, ← mx_c1]; rfl
theorem vX0_stock_28 : mStepO h k cX0_stock bl Q Y (28, lv, st, σ) = (mLdI Y 29 lv st σ 1) := mStep_d dX0_stock_28
theorem vX0_stock_29 : mStepO h k cX0_stock bl Q Y (29, lv, st, σ) = (mBin Y 30 lv st σ (fun x y => x <<< (y &&& 31))) := mStep_d dX0_stock_29
theorem vX0_stock_30 : mStepO h k cX0_stock bl Q Y (30, lv, st, σ) = (mBin Y 31 lv st σ (fun x y => x ^^^ y)) := mStep_d dX0_stock_30
theorem vX0_stock_31 : mStepO h k cX0_stock bl Q Y (31, lv, st, σ) = (mPut h k Y 34 lv st σ 60) := mStep_d dX0_stock_31
theorem vX0_stock_34 : mStepO h k cX0_stock bl Q Y (34, lv, st, σ) = (Y (35, lv, .int (1) :: st, σ)) := by rw [mStep_d dX0_stock_34, ← mx_c1]; rfl
theorem vX0_stock_35 : mStepO h k cX0_stock bl Q Y (35, lv, st, σ) = (mRetI bl Q st σ) := mStep_d dX0_stock_35
theorem vX0_set_0 : mStepO h k cX0_set bl Q Y (0, lv, st, σ) = (mLdI Y 1 lv st σ 1) := mStep_d dX0_set_0
theorem vX0_set_1 : mStepO h k cX0_set bl Q Y (1, lv, st, σ) = (mJ1 Y 23 4 lv st σ (fun x => x < 0)) := (mStep_d dX0_set_1).trans (mIf1_J jt_1_22 jp_1_22)
theorem vX0_set_4 : mStepO h k cX0_set bl Q Y (4, lv, st, σ) = (mLdI Y 5 lv st σ 1) := mStep_d dX0_set_4
theorem vX0_set_5 : mStepO h k cX0_set bl Q Y (5, lv, st, σ) = (Y (6, lv, .int (4) :: st, σ)) := by rw [mStep_d dX0_set_5, ← mx_c4]; rfl
theorem vX0_set_6 : mStepO h k cX0_set bl Q Y (6, lv, st, σ) = (mJ2 Y 23 9 lv st σ (fun x y => y ≤ x)) := (mStep_d dX0_set_6).trans (mIf2_J jt_6_17 jp_6_17)
theorem vX0_set_9 : mStepO h k cX0_set bl Q Y (9, lv, st, σ) = (mLdI Y 10 lv st σ 2) := mStep_d dX0_set_9
theorem vX0_set_10 : mStepO h k cX0_set bl Q Y (10, lv, st, σ) = (Y (11, lv, .int (1) :: st, σ)) := by rw [mStep_d dX0_set_10, ← mx_c1]; rfl
theorem vX0_set_11 : mStepO h k cX0_set bl Q Y (11, lv, st, σ) = (mJ2 Y 23 14 lv st σ (fun x y => x < y)) := (mStep_d dX0_set_11).trans (mIf2_J jt_11_12 jp_11_12)
theorem vX0_set_14 : mStepO h k cX0_set bl Q Y (14, lv, st, σ) = (mLdI Y 15 lv st σ 2) := mStep_d dX0_set_14
theorem vX0_set_18 : mStepO h k cX0_set bl Q Y (18, lv, st, σ) = (mLdI Y 19 lv st σ 1) := mStep_d dX0_set_18
theorem vX0_set_19 : mStepO h k cX0_set bl Q Y (19, lv, st, σ) = (mLdE h Y 20 lv st σ) := mStep_d dX0_set_19
theorem vX0_set_20 : mStepO h k cX0_set bl Q Y (20, lv, st, σ) = (mJ2 Y 25 23 lv st σ (fun x y => x ≤ y)) := (mStep_d dX0_set_20).trans (mIf2_J jt_20_5 jp_20_5)
theorem vX0_set_23 : mStepO h k cX0_set bl Q Y (23, lv, st, σ) = (Y (24, lv, .int (0) :: st, σ)) := by rw [mStep_d dX0_set_23, ← mx_c0]; rfl
theorem vX0_set_24 : mStepO h k cX0_set bl Q Y (24, lv, st, σ) = (mRetI bl Q st σ) := mStep_d dX0_set_24
theorem vX0_set_25 : mStepO h k cX0_set bl Q Y (25, lv, st, σ) = (mLdA Y 26 lv st σ 0) := mStep_d dX0_set_25
theorem vX0_set_26 : mStepO h k cX0_set bl Q Y (26, lv, st, σ) = (mGet h k Y 29 lv st σ 18) := mStep_d dX0_set_26
theorem vX0_set_29 : mStepO h k cX0_set bl Q Y (29, lv, st, σ) = (mLdI Y 30 lv st σ 1) := mStep_d dX0_set_29
theorem vX0_set_30 : mStepO h k cX0_set bl Q Y (30, lv, st, σ) = (mLdI Y 31 lv st σ 2) := mStep_d dX0_set_30
theorem vX0_set_31 : mStepO h k cX0_set bl Q Y (31, lv, st, σ) = (mStE h Y 32 lv st σ) := mStep_d dX0_set_31
theorem vX0_set_32 : mStepO h k cX0_set bl Q Y (32, lv, st, σ) = (Y (33, lv, .int (1) :: st, σ)) := by rw [mStep_d dX0_set_32, ← mx_c1]; rfl
theorem vX0_set_33 : mStepO h k cX0_set bl Q Y (33, lv, st, σ) = (mRetI bl Q st σ) := mStep_d dX0_set_33
theorem vX0_apart_0 : mStepO h k cX0_apart bl Q Y (0, lv, st, σ) = (mLdA Y 1 lv st σ 0) := mStep_d dX0_apart_0
theorem vX0_apart_1 : mStepO h k cX0_apart bl Q Y (1, lv, st, σ) = (mLdI Y 2 lv st σ 1) := mStep_d dX0_apart_1
theorem vX0_apart_2 : mStepO h k cX0_apart bl Q Y (2, lv, st, σ) = (mLdI Y 3 lv st σ 2) := mStep_d dX0_apart_2
theorem vX0_apart_3 : mStepO h k cX0_apart bl Q Y (3, lv, st, σ) = (mCaV k Y 6 lv st σ 74) := mStep_d dX0_apart_3
theorem vX0_apart_6 : mStepO h k cX0_apart bl Q Y (6, lv, st, σ) = (mJ1 Y 23 9 lv st σ (fun x => x = 0)) := (mStep_d dX0_apart_6).trans (mIf1_J jt_6_17 jp_6_17)
theorem vX0_apart_9 : mStepO h k cX0_apart bl Q Y (9, lv, st, σ) = (mLdA Y 10 lv st σ 0) := mStep_d dX0_apart_9
theorem vX0_apart_10 : mStepO h k cX0_apart bl Q Y (10, lv, st, σ) = (mGet h k Y 13 lv st σ 27) := mStep_d dX0_apart_10
theorem vX0_apart_13 : mStepO h k cX0_apart bl Q Y (13, lv, st, σ) = (mLdI Y 14 lv st σ 1) := mStep_d dX0_apart_13
theorem vX0_apart_14 : mStepO h k cX0_apart bl Q Y (14, lv, st, σ) = (mLdE h Y 15 lv st σ) := mStep_d dX0_apart_14
theorem vX0_apart_15 : mStepO h k cX0_apart bl Q Y (15, lv, st, σ) = (mLdI Y 16 lv st σ 2) := mStep_d dX0_apart_15
theorem vX0_apart_16 : mStepO h k cX0_apart bl Q Y (16, lv, st, σ) = (mCaS k Y 19 lv st σ 67) := mStep_d dX0_apart_16
theorem vX0_apart_19 : mStepO h k cX0_apart bl Q Y (19, lv, st, σ) = (mLdI Y 20 lv st σ 3) := mStep_d dX0_apart_19
theorem vX0_apart_20 : mStepO h k cX0_apart bl Q Y (20, lv, st, σ) = (mN2 Y 25 23 lv st σ) := (mStep_d dX0_apart_20).trans (mIfN2_J jt_20_5 jp_20_5)
theorem vX0_apart_23 : mStepO h k cX0_apart bl Q Y (23, lv, st, σ) = (Y (24, lv, .int (0) :: st, σ)) := by rw [mStep_d dX0_apart_23, ← mx_c0]; rfl
theorem vX0_apart_24 : mStepO h k cX0_apart bl Q Y (24, lv, st, σ) = (mRetI bl Q st σ) := mStep_d dX0_apart_24
theorem vX0_apart_25 : mStepO h k cX0_apart bl Q Y (25, lv, st, σ) = (mLdA Y 26 lv st σ 0) := mStep_d dX0_apart_25
theorem vX0_apart_26 : mStepO h k cX0_apart bl Q Y (26, lv, st, σ) = (mGet h k Y 29 lv st σ 27) := mStep_d dX0_apart_26
theorem vX0_apart_29 : mStepO h k cX0_apart bl Q Y (29, lv, st, σ) = (mLdI Y 30 lv st σ 1) := mStep_d dX0_apart_29
theorem vX0_apart_30 : mStepO h k cX0_apart bl Q Y (30, lv, st, σ) = (mDup2 Y 31 lv st σ) := mStep_d dX0_apart_30
theorem vX0_apart_31 : mStepO h k cX0_apart bl Q Y (31, lv, st, σ) = (mLdE h Y 32 lv st σ) := mStep_d dX0_apart_31
theorem vX0_apart_32 : mStepO h k cX0_apart bl Q Y (32, lv, st, σ) = (Y (33, lv, .int (1) :: st, σ)) := by rw [mStep_d dX0_apart_32, ← mx_c1]; rfl
theorem vX0_apart_33 : mStepO h k cX0_apart bl Q Y (33, lv, st, σ) = (mLdI Y 34 lv st σ 2) := mStep_d dX0_apart_33
theorem vX0_apart_34 : mStepO h k cX0_apart bl Q Y (34, lv, st, σ) = (mBin Y 35 lv st σ (fun x y => x <<< (y &&& 31))) := mStep_d dX0_apart_34
theorem vX0_apart_35 : mStepO h k cX0_apart bl Q Y (35, lv, st, σ) = (mBin Y 36 lv st σ (fun x y => x ^^^ y)) := mStep_d dX0_apart_35
theorem vX0_apart_36 : mStepO h k cX0_apart bl Q Y (36, lv, st, σ) = (mStE h Y 37 lv st σ) := mStep_d dX0_apart_36
theorem vX0_apart_37 : mStepO h k cX0_apart bl Q Y (37, lv, st, σ) = (mLdA Y 38 lv st σ 0) := mStep_d dX0_apart_37
theorem vX0_apart_38 : mStepO h k cX0_apart bl Q Y (38, lv, st, σ) = (mGet h k Y 41 lv st σ 27) := mStep_d dX0_apart_38
theorem vX0_apart_41 : mStepO h k cX0_apart bl Q Y (41, lv, st, σ) = (mLdI Y 42 lv st σ 2) := mStep_d dX0_apart_41
theorem vX0_apart_42 : mStepO h k cX0_apart bl Q Y (42, lv, st, σ) = (mDup2 Y 43 lv st σ) := mStep_d dX0_apart_42
theorem vX0_apart_43 : mStepO h k cX0_apart bl Q Y (43, lv, st, σ) = (mLdE h Y 44 lv st σ) := mStep_d dX0_apart_43
theorem vX0_apart_44 : mStepO h k cX0_apart bl Q Y (44, lv, st, σ) = (Y (45, lv, .int (1) :: st, σ)) := by rw [mStep_d dX0_apart_44, ← mx_c1]; rfl
theorem vX0_apart_45 : mStepO h k cX0_apart bl Q Y (45, lv, st, σ) = (mLdI Y 46 lv st σ 1) := mStep_d dX0_apart_45
theorem vX0_apart_46 : mStepO h k cX0_apart bl Q Y (46, lv, st, σ) = (mBin Y 47 lv st σ (fun x y => x <<< (y &&& 31))) := mStep_d dX0_apart_46
theorem vX0_apart_47 : mStepO h k cX0_apart bl Q Y (47, lv, st, σ) = (mBin Y 48 lv st σ (fun x y => x ^^^ y)) := mStep_d dX0_apart_47
theorem vX0_apart_48 : mStepO h k cX0_apart bl Q Y (48, lv, st, σ) = (mStE h Y 49 lv st σ) := mStep_d dX0_apart_48
theorem vX0_apart_49 : mStepO h k cX0_apart bl Q Y (49, lv, st, σ) = (Y (50, lv, .int (1) :: st, σ)) := by rw [mStep_d dX0_apart_49, ← mx_c1]; rfl
theorem vX0_apart_50 : mStepO h k cX0_apart bl Q Y (50, lv, st, σ) = (mRetI bl Q st σ) := mStep_d dX0_apart_50
theorem vX0_basket_0 : mStepO h k cX0_basket bl Q Y (0, lv, st, σ) = (mLdI Y 1 lv st σ 1) := mStep_d dX0_basket_0
theorem vX0_basket_1 : mStepO h k cX0_basket bl Q Y (1, lv, st, σ) = (mCaS k Y 4 lv st σ 77) := mStep_d dX0_basket_1
theorem vX0_basket_4 : mStepO h k cX0_basket bl Q Y (4, lv, st, σ) = (mJ1 Y 28 7 lv st σ (fun x => x = 0)) := (mStep_d dX0_basket_4).trans (mIf1_J jt_4_24 jp_4_24)
theorem vX0_basket_7 : mStepO h k cX0_basket bl Q Y (7, lv, st, σ) = (mLdA Y 8 lv st σ 0) := mStep_d dX0_basket_7
theorem vX0_basket_8 : mStepO h k cX0_basket bl Q Y (8, lv, st, σ) = (mLdI Y 9 lv st σ 2) := mStep_d dX0_basket_8
theorem vX0_basket_9 : mStepO h k cX0_basket bl Q Y (9, lv, st, σ) = (mCaV k Y 12 lv st σ 80) := mStep_d dX0_basket_9
theorem vX0_basket_12 : mStepO h k cX0_basket bl Q Y (12, lv, st, σ) = (mJ1 Y 28 15 lv st σ (fun x => x = 0)) := (mStep_d dX0_basket_12).trans (mIf1_J jt_12_16 jp_12_16)
theorem vX0_basket_15 : mStepO h k cX0_basket bl Q Y (15, lv, st, σ) = (mLdI Y 16 lv st σ 2) := mStep_d dX0_basket_15
theorem vX0_basket_16 : mStepO h k cX0_basket bl Q Y (16, lv, st, σ) = (mJ1 Y 28 19 lv st σ (fun x => x = 0)) := (mStep_d dX0_basket_16).trans (mIf1_J jt_16_12 jp_16_12)
theorem vX0_basket_19 : mStepO h k cX0_basket bl Q Y (19, lv, st, σ) = (mLdA Y 20 lv st σ 0) := mStep_d dX0_basket_19
theorem vX0_basket_20 : mStepO h k cX0_basket bl Q Y (20, lv, st, σ) = (mGet h k Y 23 lv st σ 83) := mStep_d dX0_basket_20
theorem vX0_basket_23 : mStepO h k cX0_basket bl Q Y (23, lv, st, σ) = (Y (25, lv, .int (60) :: st, σ)) := by rw [mStep_d dX0_basket_23, ← mx_b60]; rfl
theorem vX0_basket_25 : mStepO h k cX0_basket bl Q Y (25, lv, st, σ) = (mJ2 Y 30 28 lv st σ (fun x y => x < y)) := (mStep_d dX0_basket_25).trans (mIf2_J jt_25_5 jp_25_5)
theorem vX0_basket_28 : mStepO h k cX0_basket bl Q Y (28, lv, st, σ) = (Y (29, lv, .int (-1) :: st, σ)) := by rw [mStep_d dX0_basket_28, ← mx_cm1]; rfl
theorem vX0_basket_29 : mStepO h k cX0_basket bl Q Y (29, lv, st, σ) = (mRetI bl Q st σ) := mStep_d dX0_basket_29
theorem vX0_basket_30 : mStepO h k cX0_basket bl Q Y (30, lv, st, σ) = (mLdA Y 31 lv st σ 0) := mStep_d dX0_basket_30
theorem vX0_basket_31 : mStepO h k cX0_basket bl Q Y (31, lv, st, σ) = (mGet h k Y 34 lv st σ 83) := mStep_d dX0_basket_31
theorem vX0_basket_34 : mStepO h k cX0_basket bl Q Y (34, lv, st, σ) = (mStI Y 35 lv st σ 3) := mStep_d dX0_basket_34
theorem vX0_basket_35 : mStepO h k cX0_basket bl Q Y (35, lv, st, σ) = (mLdA Y 36 lv st σ 0) := mStep_d dX0_basket_35
theorem vX0_basket_36 : mStepO h k cX0_basket bl Q Y (36, lv, st, σ) = (mDup Y 37 lv st σ) := mStep_d dX0_basket_36
theorem vX0_basket_37 : mStepO h k cX0_basket bl Q Y (37, lv, st, σ) = (mGet h k Y 40 lv st σ 83) := mStep_d dX0_basket_37
theorem vX0_basket_40 : mStepO h k cX0_basket bl Q Y (40, lv, st, σ) = (Y (41, lv, .int (1) :: st, σ)) := by rw [mStep_d dX0_basket_40, ← mx_c1]; rfl
theorem vX0_basket_41 : mStepO h k cX0_basket bl Q Y (41, lv, st, σ) = (mBin Y 42 lv st σ (fun x y => x + y)) := mStep_d dX0_basket_41
theorem vX0_basket_42 : mStepO h k cX0_basket bl Q Y (42, lv, st, σ) = (mPut h k Y 45 lv st σ 83) := mStep_d dX0_basket_42
theorem vX0_basket_45 : mStepO h k cX0_basket bl Q Y (45, lv, st, σ) = (mLdA Y 46 lv st σ 0) := mStep_d dX0_basket_45
theorem vX0_basket_46 : mStepO h k cX0_basket bl Q Y (46, lv, st, σ) = (mGet h k Y 49 lv st σ 30) := mStep_d dX0_basket_46
theorem vX0_basket_49 : mStepO h k cX0_basket bl Q Y (49, lv, st, σ) = (mLdI Y 50 lv st σ 3) := mStep_d dX0_basket_49
theorem vX0_basket_50 : mStepO h k cX0_basket bl Q Y (50, lv, st, σ) = (mLdI Y 51 lv st σ 1) := mStep_d dX0_basket_50
theorem vX0_basket_51 : mStepO h k cX0_basket bl Q Y (51, lv, st, σ) = (mStE h Y 52 lv st σ) := mStep_d dX0_basket_51
theorem vX0_basket_52 : mStepO h k cX0_basket bl Q Y (52, lv, st, σ) = (mLdA Y 53 lv st σ 0) := mStep_d dX0_basket_52
theorem vX0_basket_53 : mStepO h k cX0_basket bl Q Y (53, lv, st, σ) = (mGet h k Y 56 lv st σ 33) := mStep_d dX0_basket_53
theorem vX0_basket_56 : mStepO h k cX0_basket bl Q Y (56, lv, st, σ) = (mLdI Y 57 lv st σ 3) := mStep_d dX0_basket_56
theorem vX0_basket_57 : mStepO h k cX0_basket bl Q Y (57, lv, st, σ) = (mLdA Y 58 lv st σ 0) := mStep_d dX0_basket_57
theorem vX0_basket_58 : mStepO h k cX0_basket bl Q Y (58, lv, st, σ) = (mGet h k Y 61 lv st σ 57) := mStep_d dX0_basket_58
theorem vX0_basket_61 : mStepO h k cX0_basket bl Q Y (61, lv, st, σ) = (mStE h Y 62 lv st σ) := mStep_d dX0_basket_61
theorem vX0_basket_62 : mStepO h k cX0_basket bl Q Y (62, lv, st, σ) = (mLdA Y 63 lv st σ 0) := mStep_d dX0_basket_62
theorem vX0_basket_63 : mStepO h k cX0_basket bl Q Y (63, lv, st, σ) = (mGet h k Y 66 lv st σ 36) := mStep_d dX0_basket_63
theorem vX0_basket_66 : mStepO h k cX0_basket bl Q Y (66, lv, st, σ) = (mLdI Y 67 lv st σ 3) := mStep_d dX0_basket_66
theorem vX0_basket_67 : mStepO h k cX0_basket bl Q Y (67, lv, st, σ) = (mLdI Y 68 lv st σ 2) := mStep_d dX0_basket_67
theorem vX0_basket_68 : mStepO h k cX0_basket bl Q Y (68, lv, st, σ) = (mStE h Y 69 lv st σ) := mStep_d dX0_basket_68
theorem vX0_basket_69 : mStepO h k cX0_basket bl Q Y (69, lv, st, σ) = (mLdA Y 70 lv st σ 0) := mStep_d dX0_basket_69
theorem vX0_basket_70 : mStepO h k cX0_basket bl Q Y (70, lv, st, σ) = (mLdI Y 71 lv st σ 1) := mStep_d dX0_basket_70
theorem vX0_basket_71 : mStepO h k cX0_basket bl Q Y (71, lv, st, σ) = (mLdI Y 72 lv st σ 2) := mStep_d dX0_basket_71
theorem vX0_basket_72 : mStepO h k cX0_basket bl Q Y (72, lv, st, σ) = (mCaV k Y 75 lv st σ 86) := mStep_d dX0_basket_72
theorem vX0_basket_75 : mStepO h k cX0_basket bl Q Y (75, lv, st, σ) = (mLdI Y 76 lv st σ 3) := mStep_d dX0_basket_75
theorem vX0_basket_76 : mStepO h k cX0_basket bl Q Y (76, lv, st, σ) = (mRetI bl Q st σ) := mStep_d dX0_basket_76
theorem vX0_drop_0 : mStepO h k cX0_drop bl Q Y (0, lv, st, σ) = (mLdA Y 1 lv st σ 0) := mStep_d dX0_drop_0
theorem vX0_drop_1 : mStepO h k cX0_drop bl Q Y (1, lv, st, σ) = (mLdI Y 2 lv st σ 1) := mStep_d dX0_drop_1
theorem vX0_drop_2 : mStepO h k cX0_drop bl Q Y (2, lv, st, σ) = (mCaV k Y 5 lv st σ 90) := mStep_d dX0_drop_2
theorem vX0_drop_5 : mStepO h k cX0_drop bl Q Y (5, lv, st, σ) = (mN1 Y 10 8 lv st σ) := (mStep_d dX0_drop_5).trans (mIfN1_J jt_5_5 jp_5_5)
theorem vX0_drop_8 : mStepO h k cX0_drop bl Q Y (8, lv, st, σ) = (Y (9, lv, .int (0) :: st, σ)) := by rw [mStep_d dX0_drop_8, ← mx_c0]; rfl
theorem vX0_drop_9 : mStepO h k cX0_drop bl Q Y (9, lv, st, σ) = (mRetI bl Q st σ) := mStep_d dX0_drop_9
theorem vX0_drop_10 : mStepO h k cX0_drop bl Q Y (10, lv, st, σ) = (mLdA Y 11 lv st σ 0) := mStep_d dX0_drop_10
theorem vX0_drop_11 : mStepO h k cX0_drop bl Q Y (11, lv, st, σ) = (mLdI Y 12 lv st σ 1) := mStep_d dX0_drop_11
theorem vX0_drop_12 : mStepO h k cX0_drop bl Q Y (12, lv, st, σ) = (mCaV k Y 15 lv st σ 93) := mStep_d dX0_drop_12
theorem vX0_drop_15 : mStepO h k cX0_drop bl Q Y (15, lv, st, σ) = (Y (16, lv, .int (1) :: st, σ)) := by rw [mStep_d dX0_drop_15, ← mx_c1]; rfl
theorem vX0_drop_16 : mStepO h k cX0_drop bl Q Y (16, lv, st, σ) = (mRetI bl Q st σ) := mStep_d dX0_drop_16
theorem vX0_forget_0 : mStepO h k cX0_forget bl Q Y (0, lv, st, σ) = (mLdI Y 1 lv st σ 1) := mStep_d dX0_forget_0
theorem vX0_forget_1 : mStepO h k cX0_forget bl Q Y (1, lv, st, σ) = (mCaS k Y 4 lv st σ 77) := mStep_d dX0_forget_1
theorem vX0_forget_4 : mStepO h k cX0_forget bl Q Y (4, lv, st, σ) = (mN1 Y 9 7 lv st σ) := (mStep_d dX0_forget_4).trans (mIfN1_J jt_4_5 jp_4_5)
theorem vX0_forget_7 : mStepO h k cX0_forget bl Q Y (7, lv, st, σ) = (Y (8, lv, .int (-1) :: st, σ)) := by rw [mStep_d dX0_forget_7, ← mx_cm1]; rfl
theorem vX0_forget_8 : mStepO h k cX0_forget bl Q Y (8, lv, st, σ) = (mRetI bl Q st σ) := mStep_d dX0_forget_8
theorem vX0_forget_9 : mStepO h k cX0_forget bl Q Y (9, lv, st, σ) = (mLdA Y 10 lv st σ 0) := mStep_d dX0_forget_9
theorem vX0_forget_10 : mStepO h k cX0_forget bl Q Y (10, lv, st, σ) = (mGet h k Y 13 lv st σ 83) := mStep_d dX0_forget_10
theorem vX0_forget_13 : mStepO h k cX0_forget bl Q Y (13, lv, st, σ) = (mStI Y 14 lv st σ 2) := mStep_d dX0_forget_13
theorem vX0_forget_14 : mStepO h k cX0_forget bl Q Y (14, lv, st, σ) = (mLdI Y 15 lv st σ 2) := mStep_d dX0_forget_14
theorem vX0_forget_15 : mStepO h k cX0_forget bl Q Y (15, lv, st, σ) = (Y (16, lv, .int (1) :: st, σ)) := by rw [mStep_d dX0_forget_15, ← mx_c1]; rfl
theorem vX0_forget_16 : mStepO h k cX0_forget bl Q Y (16, lv, st, σ) = (mBin Y 17 lv st σ (fun x y => x - y)) := mStep_d dX0_forget_16
theorem vX0_forget_17 : mStepO h k cX0_forget bl Q Y (17, lv, st, σ) = (mStI Y 18 lv st σ 3) := mStep_d dX0_forget_17
theorem vX0_forget_18 : mStepO h k cX0_forget bl Q Y (18, lv, st, σ) = (mLdI Y 19 lv st σ 3) := mStep_d dX0_forget_18
theorem vX0_forget_19 : mStepO h k cX0_forget bl Q Y (19, lv, st, σ) = (mJ1 Y 43 22 lv st σ (fun x => x < 0)) := (mStep_d dX0_forget_19).trans (mIf1_J jt_19_24 jp_19_24)
theorem vX0_forget_22 : mStepO h k cX0_forget bl Q Y (22, lv, st, σ) = (mLdA Y 23 lv st σ 0) := mStep_d dX0_forget_22
theorem vX0_forget_23 : mStepO h k cX0_forget bl Q Y (23, lv, st, σ) = (mGet h k Y 26 lv st σ 30) := mStep_d dX0_forget_23
theorem vX0_forget_26 : mStepO h k cX0_forget bl Q Y (26, lv, st, σ) = (mLdI Y 27 lv st σ 3) := mStep_d dX0_forget_26
theorem vX0_forget_27 : mStepO h k cX0_forget bl Q Y (27, lv, st, σ) = (mLdE h Y 28 lv st σ) := mStep_d dX0_forget_27
theorem vX0_forget_28 : mStepO h k cX0_forget bl Q Y (28, lv, st, σ) = (mLdI Y 29 lv st σ 1) := mStep_d dX0_forget_28
theorem vX0_forget_29 : mStepO h k cX0_forget bl Q Y (29, lv, st, σ) = (mN2 Y 37 32 lv st σ) := (mStep_d dX0_forget_29).trans (mIfN2_J jt_29_8 jp_29_8)
theorem vX0_forget_32 : mStepO h k cX0_forget bl Q Y (32, lv, st, σ) = (mLdA Y 33 lv st σ 0) := mStep_d dX0_forget_32
theorem vX0_forget_33 : mStepO h k cX0_forget bl Q Y (33, lv, st, σ) = (mLdI Y 34 lv st σ 3) := mStep_d dX0_forget_33
theorem vX0_forget_34 : mStepO h k cX0_forget bl Q Y (34, lv, st, σ) = (mCaV k Y 37 lv st σ 93) := mStep_d dX0_forget_34
theorem vX0_forget_37 : mStepO h k cX0_forget bl Q Y (37, lv, st, σ) = (mInc Y 40 lv st σ 3 (-1)) := by rw [mStep_d dX0_forget_37, ← mx_cm1]; rfl
theorem vX0_forget_40 : mStepO h k cX0_forget bl Q Y (40, lv, st, σ) = (Y (18, lv, st, σ)) := (mStep_d dX0_forget_40).trans (mJ_J jt_40_m22 jp_40_m22)
theorem vX0_forget_43 : mStepO h k cX0_forget bl Q Y (43, lv, st, σ) = (mLdA Y 44 lv st σ 0) := mStep_d dX0_forget_43
theorem vX0_forget_44 : mStepO h k cX0_forget bl Q Y (44, lv, st, σ) = (mGet h k Y 47 lv st σ 39) := mStep_d dX0_forget_44
theorem vX0_forget_47 : mStepO h k cX0_forget bl Q Y (47, lv, st, σ) = (mLdI Y 48 lv st σ 1) := mStep_d dX0_forget_47
theorem vX0_forget_48 : mStepO h k cX0_forget bl Q Y (48, lv, st, σ) = (Y (49, lv, .int (0) :: st, σ)) := by rw [mStep_d dX0_forget_48, ← mx_c0]; rfl
theorem vX0_forget_49 : mStepO h k cX0_forget bl Q Y (49, lv, st, σ) = (mStE h Y 50 lv st σ) := mStep_d dX0_forget_49
theorem vX0_forget_50 : mStepO h k cX0_forget bl Q Y (50, lv, st, σ) = (mLdA Y 51 lv st σ 0) := mStep_d dX0_forget_50
theorem vX0_forget_51 : mStepO h k cX0_forget bl Q Y (51, lv, st, σ) = (mLdI Y 52 lv st σ 1) := mStep_d dX0_forget_51
theorem vX0_forget_52 : mStepO h k cX0_forget bl Q Y (52, lv, st, σ) = (mLdA Y 53 lv st σ 0) := mStep_d dX0_forget_52
theorem vX0_forget_53 : mStepO h k cX0_forget bl Q Y (53, lv, st, σ) = (mCaV k Y 56 lv st σ 97) := mStep_d dX0_forget_53
theorem vX0_forget_56 : mStepO h k cX0_forget bl Q Y (56, lv, st, σ) = (mCaV k Y 59 lv st σ 86) := mStep_d dX0_forget_56
theorem vX0_forget_59 : mStepO h k cX0_forget bl Q Y (59, lv, st, σ) = (mLdI Y 60 lv st σ 2) := mStep_d dX0_forget_59
theorem vX0_forget_60 : mStepO h k cX0_forget bl Q Y (60, lv, st, σ) = (mLdA Y 61 lv st σ 0) := mStep_d dX0_forget_60
theorem vX0_forget_61 : mStepO h k cX0_forget bl Q Y (61, lv, st, σ) = (mGet h k Y 64 lv st σ 83) := mStep_d dX0_forget_61
theorem vX0_forget_64 : mStepO h k cX0_forget bl Q Y (64, lv, st, σ) = (mBin Y 65 lv st σ (fun x y => x - y)) := mStep_d dX0_forget_64
theorem vX0_forget_65 : mStepO h k cX0_forget bl Q Y (65, lv, st, σ) = (mRetI bl Q st σ) := mStep_d dX0_forget_65
theorem vX0_day_0 : mStepO h k cX0_day bl Q Y (0, lv, st, σ) = (mLdA Y 1 lv st σ 0) := mStep_d dX0_day_0
theorem vX0_day_1 : mStepO h k cX0_day bl Q Y (1, lv, st, σ) = (mGet h k Y 4 lv st σ 57) := mStep_d dX0_day_1
theorem vX0_day_4 : mStepO h k cX0_day bl Q Y (4, lv, st, σ) = (Y (7, lv, .int (9999) :: st, σ)) := by rw [mStep_d dX0_day_4, ← mx_s9999]; rfl
theorem vX0_day_7 : mStepO h k cX0_day bl Q Y (7, lv, st, σ) = (mJ2 Y 12 10 lv st σ (fun x y => x < y)) := (mStep_d dX0_day_7).trans (mIf2_J jt_7_5 jp_7_5)
theorem vX0_day_10 : mStepO h k cX0_day bl Q Y (10, lv, st, σ) = (Y (11, lv, .int (-1) :: st, σ)) := by rw [mStep_d dX0_day_10, ← mx_cm1]; rfl
theorem vX0_day_11 : mStepO h k cX0_day bl Q Y (11, lv, st, σ) = (mRetI bl Q st σ) := mStep_d dX0_day_11
theorem vX0_day_12 : mStepO h k cX0_day bl Q Y (12, lv, st, σ) = (mLdA Y 13 lv st σ 0) := mStep_d dX0_day_12
theorem vX0_day_13 : mStepO h k cX0_day bl Q Y (13, lv, st, σ) = (mDup Y 14 lv st σ) := mStep_d dX0_day_13
theorem vX0_day_14 : mStepO h k cX0_day bl Q Y (14, lv, st, σ) = (mGet h k Y 17 lv st σ 57) := mStep_d dX0_day_14
theorem vX0_day_17 : mStepO h k cX0_day bl Q Y (17, lv, st, σ) = (Y (18, lv, .int (1) :: st, σ)) := by rw [mStep_d dX0_day_17, ← mx_c1]; rfl
theorem vX0_day_18 : mStepO h k cX0_day bl Q Y (18, lv, st, σ) = (mBin Y 19 lv st σ (fun x y => x + y)) := mStep_d dX0_day_18
theorem vX0_day_19 : mStepO h k cX0_day bl Q Y (19, lv, st, σ) = (mPut h k Y 22 lv st σ 57) := mStep_d dX0_day_19
theorem vX0_day_22 : mStepO h k cX0_day bl Q Y (22, lv, st, σ) = (mLdA Y 23 lv st σ 0) := mStep_d dX0_day_22
theorem vX0_day_23 : mStepO h k cX0_day bl Q Y (23, lv, st, σ) = (mCaV k Y 26 lv st σ 101) := mStep_d dX0_day_23
theorem vX0_day_26 : mStepO h k cX0_day bl Q Y (26, lv, st, σ) = (mLdA Y 27 lv st σ 0) := mStep_d dX0_day_26
theorem vX0_day_27 : mStepO h k cX0_day bl Q Y (27, lv, st, σ) = (mGet h k Y 30 lv st σ 57) := mStep_d dX0_day_27
theorem vX0_day_30 : mStepO h k cX0_day bl Q Y (30, lv, st, σ) = (mRetI bl Q st σ) := mStep_d dX0_day_30
theorem vX0_look_0 : mStepO h k cX0_look bl Q Y (0, lv, st, σ) = (mLdI Y 1 lv st σ 1) := mStep_d dX0_look_0
theorem vX0_look_1 : mStepO h k cX0_look bl Q Y (1, lv, st, σ) = (mTsw Y 1 lv st σ 104 0 8 [51, 56, 61, 66, 73, 80, 87, 94, 99]) := mStep_d dX0_look_1
theorem vX0_look_52 : mStepO h k cX0_look bl Q Y (52, lv, st, σ) = (mLdA Y 53 lv st σ 0) := mStep_d dX0_look_52
theorem vX0_look_53 : mStepO h k cX0_look bl Q Y (53, lv, st, σ) = (mGet h k Y 56 lv st σ 57) := mStep_d dX0_look_53
theorem vX0_look_56 : mStepO h k cX0_look bl Q Y (56, lv, st, σ) = (mRetI bl Q st σ) := mStep_d dX0_look_56
theorem vX0_look_57 : mStepO h k cX0_look bl Q Y (57, lv, st, σ) = (mLdA Y 58 lv st σ 0) := mStep_d dX0_look_57
theorem vX0_look_58 : mStepO h k cX0_look bl Q Y (58, lv, st, σ) = (mGet h k Y 61 lv st σ 53) := mStep_d dX0_look_58
theorem vX0_look_61 : mStepO h k cX0_look bl Q Y (61, lv, st, σ) = (mRetI bl Q st σ) := mStep_d dX0_look_61
theorem vX0_look_62 : mStepO h k cX0_look bl Q Y (62, lv, st, σ) = (mLdA Y 63 lv st σ 0) := mStep_d dX0_look_62
theorem vX0_look_63 : mStepO h k cX0_look bl Q Y (63, lv, st, σ) = (mGet h k Y 66 lv st σ 83) := mStep_d dX0_look_63
theorem vX0_look_66 : mStepO h k cX0_look bl Q Y (66, lv, st, σ) = (mRetI bl Q st σ) := mStep_d dX0_look_66
theorem vX0_look_67 : mStepO h k cX0_look bl Q Y (67, lv, st, σ) = (mLdA Y 68 lv st σ 0) := mStep_d dX0_look_67
theorem vX0_look_68 : mStepO h k cX0_look bl Q Y (68, lv, st, σ) = (mGet h k Y 71 lv st σ 18) := mStep_d dX0_look_68
theorem vX0_look_71 : mStepO h k cX0_look bl Q Y (71, lv, st, σ) = (Y (72, lv, .int (0) :: st, σ)) := by rw [mStep_d dX0_look_71, ← mx_c0]; rfl
theorem vX0_look_72 : mStepO h k cX0_look bl Q Y (72, lv, st, σ) = (mLdE h Y 73 lv st σ) := mStep_d dX0_look_72
theorem vX0_look_73 : mStepO h k cX0_look bl Q Y (73, lv, st, σ) = (mRetI bl Q st σ) := mStep_d dX0_look_73
theorem vX0_look_74 : mStepO h k cX0_look bl Q Y (74, lv, st, σ) = (mLdA Y 75 lv st σ 0) := mStep_d dX0_look_74
theorem vX0_look_75 : mStepO h k cX0_look bl Q Y (75, lv, st, σ) = (mGet h k Y 78 lv st σ 18) := mStep_d dX0_look_75
theorem vX0_look_78 : mStepO h k cX0_look bl Q Y (78, lv, st, σ) = (Y (79, lv, .int (1) :: st, σ)) := by rw [mStep_d dX0_look_78, ← mx_c1]; rfl
theorem vX0_look_79 : mStepO h k cX0_look bl Q Y (79, lv, st, σ) = (mLdE h Y 80 lv st σ) := mStep_d dX0_look_79
theorem vX0_look_80 : mStepO h k cX0_look bl Q Y (80, lv, st, σ) = (mRetI bl Q st σ) := mStep_d dX0_look_80
theorem vX0_look_81 : mStepO h k cX0_look bl Q Y (81, lv, st, σ) = (mLdA Y 82 lv st σ 0) := mStep_d dX0_look_81
theorem vX0_look_82 : mStepO h k cX0_look bl Q Y (82, lv, st, σ) = (mGet h k Y 85 lv st σ 18) := mStep_d dX0_look_82
theorem vX0_look_85 : mStepO h k cX0_look bl Q Y (85, lv, st, σ) = (Y (86, lv, .int (2) :: st, σ)) := by rw [mStep_d dX0_look_85, ← mx_c2]; rfl
theorem vX0_look_86 : mStepO h k cX0_look bl Q Y (86, lv, st, σ) = (mLdE h Y 87 lv st σ) := mStep_d dX0_look_86
theorem vX0_look_87 : mStepO h k cX0_look bl Q Y (87, lv, st, σ) = (mRetI bl Q st σ) := mStep_d dX0_look_87
theorem vX0_look_88 : mStepO h k cX0_look bl Q Y (88, lv, st, σ) = (mLdA Y 89 lv st σ 0) := mStep_d dX0_look_88
theorem vX0_look_89 : mStepO h k cX0_look bl Q Y (89, lv, st, σ) = (mGet h k Y 92 lv st σ 18) := mStep_d dX0_look_89
theorem vX0_look_92 : mStepO h k cX0_look bl Q Y (92, lv, st, σ) = (Y (93, lv, .int (3) :: st, σ)) := by rw [mStep_d dX0_look_92, ← mx_c3]; rfl
theorem vX0_look_93 : mStepO h k cX0_look bl Q Y (93, lv, st, σ) = (mLdE h Y 94 lv st σ) := mStep_d dX0_look_93
theorem vX0_look_94 : mStepO h k cX0_look bl Q Y (94, lv, st, σ) = (mRetI bl Q st σ) := mStep_d dX0_look_94
theorem vX0_look_95 : mStepO h k cX0_look bl Q Y (95, lv, st, σ) = (mLdA Y 96 lv st σ 0) := mStep_d dX0_look_95
theorem vX0_look_96 : mStepO h k cX0_look bl Q Y (96, lv, st, σ) = (mGet h k Y 99 lv st σ 60) := mStep_d dX0_look_96
theorem vX0_look_99 : mStepO h k cX0_look bl Q Y (99, lv, st, σ) = (mRetI bl Q st σ) := mStep_d dX0_look_99
theorem vX0_look_100 : mStepO h k cX0_look bl Q Y (100, lv, st, σ) = (mLdA Y 101 lv st σ 0) := mStep_d dX0_look_100
theorem vX0_look_101 : mStepO h k cX0_look bl Q Y (101, lv, st, σ) = (mCaV k Y 104 lv st σ 104) := mStep_d dX0_look_101
theorem vX0_look_104 : mStepO h k cX0_look bl Q Y (104, lv, st, σ) = (mRetI bl Q st σ) := mStep_d dX0_look_104
theorem vX0_look_105 : mStepO h k cX0_look bl Q Y (105, lv, st, σ) = (Y (106, lv, .int (-1) :: st, σ)) := by rw [mStep_d dX0_look_105, ← mx_cm1]; rfl
theorem vX0_look_106 : mStepO h k cX0_look bl Q Y (106, lv, st, σ) = (mRetI bl Q st σ) := mStep_d dX0_look_106
theorem vX0_of_0 : mStepO h k cX0_of bl Q Y (0, lv, st, σ) = (mLdA Y 1 lv st σ 0) := mStep_d dX0_of_0
theorem vX0_of_1 : mStepO h k cX0_of bl Q Y (1, lv, st, σ) = (mLdI Y 2 lv st σ 1) := mStep_d dX0_of_1
theorem vX0_of_2 : mStepO h k cX0_of bl Q Y (2, lv, st, σ) = (mCaV k Y 5 lv st σ 90) := mStep_d dX0_of_2
theorem vX0_of_5 : mStepO h k cX0_of bl Q Y (5, lv, st, σ) = (mN1 Y 10 8 lv st σ) := (mStep_d dX0_of_5).trans (mIfN1_J jt_5_5 jp_5_5)
theorem vX0_of_8 : mStepO h k cX0_of bl Q Y (8, lv, st, σ) = (Y (9, lv, .int (-1) :: st, σ)) := by rw [mStep_d dX0_of_8, ← mx_cm1]; rfl
theorem vX0_of_9 : mStepO h k cX0_of bl Q Y (9, lv, st, σ) = (mRetI bl Q st σ) := mStep_d dX0_of_9
theorem vX0_of_10 : mStepO h k cX0_of bl Q Y (10, lv, st, σ) = (mLdI Y 11 lv st σ 2) := mStep_d dX0_of_10
theorem vX0_of_11 : mStepO h k cX0_of bl Q Y (11, lv, st, σ) = (mTsw Y 11 lv st σ 46 0 2 [25, 32, 39]) := mStep_d dX0_of_11
theorem vX0_of_36 : mStepO h k cX0_of bl Q Y (36, lv, st, σ) = (mLdA Y 37 lv st σ 0) := mStep_d dX0_of_36
theorem vX0_of_37 : mStepO h k cX0_of bl Q Y (37, lv, st, σ) = (mGet h k Y 40 lv st σ 30) := mStep_d dX0_of_37
theorem vX0_of_40 : mStepO h k cX0_of bl Q Y (40, lv, st, σ) = (mLdI Y 41 lv st σ 1) := mStep_d dX0_of_40
theorem vX0_of_41 : mStepO h k cX0_of bl Q Y (41, lv, st, σ) = (mLdE h Y 42 lv st σ) := mStep_d dX0_of_41
theorem vX0_of_42 : mStepO h k cX0_of bl Q Y (42, lv, st, σ) = (mRetI bl Q st σ) := mStep_d dX0_of_42
theorem vX0_of_43 : mStepO h k cX0_of bl Q Y (43, lv, st, σ) = (mLdA Y 44 lv st σ 0) := mStep_d dX0_of_43
theorem vX0_of_44 : mStepO h k cX0_of bl Q Y (44, lv, st, σ) = (mGet h k Y 47 lv st σ 33) := mStep_d dX0_of_44
theorem vX0_of_47 : mStepO h k cX0_of bl Q Y (47, lv, st, σ) = (mLdI Y 48 lv st σ 1) := mStep_d dX0_of_47
theorem vX0_of_48 : mStepO h k cX0_of bl Q Y (48, lv, st, σ) = (mLdE h Y 49 lv st σ) := mStep_d dX0_of_48
theorem vX0_of_49 : mStepO h k cX0_of bl Q Y (49, lv, st, σ) = (mRetI bl Q st σ) := mStep_d dX0_of_49
theorem vX0_of_50 : mStepO h k cX0_of bl Q Y (50, lv, st, σ) = (mLdA Y 51 lv st σ 0) := mStep_d dX0_of_50
theorem vX0_of_51 : mStepO h k cX0_of bl Q Y (51, lv, st, σ) = (mGet h k Y 54 lv st σ 36) := mStep_d dX0_of_51
theorem vX0_of_54 : mStepO h k cX0_of bl Q Y (54, lv, st, σ) = (mLdI Y 55 lv st σ 1) := mStep_d dX0_of_54
theorem vX0_of_55 : mStepO h k cX0_of bl Q Y (55, lv, st, σ) = (mLdE h Y 56 lv st σ) := mStep_d dX0_of_55
theorem vX0_of_56 : mStepO h k cX0_of bl Q Y (56, lv, st, σ) = (mRetI bl Q st σ) := mStep_d dX0_of_56
theorem vX0_of_57 : mStepO h k cX0_of bl Q Y (57, lv, st, σ) = (Y (58, lv, .int (-1) :: st, σ)) := by rw [mStep_d dX0_of_57, ← mx_cm1]; rfl
theorem vX0_of_58 : mStepO h k cX0_of bl Q Y (58, lv, st, σ) = (mRetI bl Q st σ) := mStep_d dX0_of_58
theorem vX0_count_0 : mStepO h k cX0_count bl Q Y (0, lv, st, σ) = (mLdA Y 1 lv st σ 0) := mStep_d dX0_count_0
theorem vX0_count_1 : mStepO h k cX0_count bl Q Y (1, lv, st, σ) = (mLdI Y 2 lv st σ 1) := mStep_d dX0_count_1
theorem vX0_count_2 : mStepO h k cX0_count bl Q Y (2, lv, st, σ) = (mCaV k Y 5 lv st σ 63) := mStep_d dX0_count_2
theorem vX0_count_5 : mStepO h k cX0_count bl Q Y (5, lv, st, σ) = (mJ1 Y 16 8 lv st σ (fun x => x = 0)) := (mStep_d dX0_count_5).trans (mIf1_J jt_5_11 jp_5_11)
theorem vX0_count_8 : mStepO h k cX0_count bl Q Y (8, lv, st, σ) = (mLdA Y 9 lv st σ 0) := mStep_d dX0_count_8
theorem vX0_count_9 : mStepO h k cX0_count bl Q Y (9, lv, st, σ) = (mLdI Y 10 lv st σ 2) := mStep_d dX0_count_9
theorem vX0_count_10 : mStepO h k cX0_count bl Q Y (10, lv, st, σ) = (mCaV k Y 13 lv st σ 63) := mStep_d dX0_count_10
theorem vX0_count_13 : mStepO h k cX0_count bl Q Y (13, lv, st, σ) = (mN1 Y 18 16 lv st σ) := (mStep_d dX0_count_13).trans (mIfN1_J jt_13_5 jp_13_5)
theorem vX0_count_16 : mStepO h k cX0_count bl Q Y (16, lv, st, σ) = (Y (17, lv, .int (-1) :: st, σ)) := by rw [mStep_d dX0_count_16, ← mx_cm1]; rfl
theorem vX0_count_17 : mStepO h k cX0_count bl Q Y (17, lv, st, σ) = (mRetI bl Q st σ) := mStep_d dX0_count_17
theorem vX0_count_18 : mStepO h k cX0_count bl Q Y (18, lv, st, σ) = (mLdI Y 19 lv st σ 3) := mStep_d dX0_count_18
theorem vX0_count_19 : mStepO h k cX0_count bl Q Y (19, lv, st, σ) = (mLsw Y 19 lv st σ 39 [(0, 25), (1, 32)]) := mStep_d dX0_count_19
theorem vX0_count_44 : mStepO h k cX0_count bl Q Y (44, lv, st, σ) = (mLdA Y 45 lv st σ 0) := mStep_d dX0_count_44
theorem vX0_count_45 : mStepO h k cX0_count bl Q Y (45, lv, st, σ) = (mLdI Y 46 lv st σ 1) := mStep_d dX0_count_45
theorem vX0_count_46 : mStepO h k cX0_count bl Q Y (46, lv, st, σ) = (mLdI Y 47 lv st σ 2) := mStep_d dX0_count_46
theorem vX0_count_47 : mStepO h k cX0_count bl Q Y (47, lv, st, σ) = (mCaV k Y 50 lv st σ 107) := mStep_d dX0_count_47
theorem vX0_count_50 : mStepO h k cX0_count bl Q Y (50, lv, st, σ) = (mRetI bl Q st σ) := mStep_d dX0_count_50
theorem vX0_count_51 : mStepO h k cX0_count bl Q Y (51, lv, st, σ) = (mLdA Y 52 lv st σ 0) := mStep_d dX0_count_51
theorem vX0_count_52 : mStepO h k cX0_count bl Q Y (52, lv, st, σ) = (mLdI Y 53 lv st σ 1) := mStep_d dX0_count_52
theorem vX0_count_53 : mStepO h k cX0_count bl Q Y (53, lv, st, σ) = (mLdI Y 54 lv st σ 2) := mStep_d dX0_count_53
theorem vX0_count_54 : mStepO h k cX0_count bl Q Y (54, lv, st, σ) = (mCaV k Y 57 lv st σ 111) := mStep_d dX0_count_54
theorem vX0_count_57 : mStepO h k cX0_count bl Q Y (57, lv, st, σ) = (mRetI bl Q st σ) := mStep_d dX0_count_57
theorem vX0_count_58 : mStepO h k cX0_count bl Q Y (58, lv, st, σ) = (Y (59, lv, .int (-1) :: st, σ)) := by rw [mStep_d dX0_count_58, ← mx_cm1]; rfl
theorem vX0_count_59 : mStepO h k cX0_count bl Q Y (59, lv, st, σ) = (mRetI bl Q st σ) := mStep_d dX0_count_59
theorem vX0_kin_0 : mStepO h k cX0_kin bl Q Y (0, lv, st, σ) = (mLdA Y 1 lv st σ 0) := mStep_d dX0_kin_0
theorem vX0_kin_1 : mStepO h k cX0_kin bl Q Y (1, lv, st, σ) = (mLdI Y 2 lv st σ 1) := mStep_d dX0_kin_1
theorem vX0_kin_2 : mStepO h k cX0_kin bl Q Y (2, lv, st, σ) = (mLdI Y 3 lv st σ 2) := mStep_d dX0_kin_2
theorem vX0_kin_3 : mStepO h k cX0_kin bl Q Y (3, lv, st, σ) = (mCaV k Y 6 lv st σ 74) := mStep_d dX0_kin_3
theorem vX0_kin_6 : mStepO h k cX0_kin bl Q Y (6, lv, st, σ) = (mJ1 Y 18 9 lv st σ (fun x => x = 0)) := (mStep_d dX0_kin_6).trans (mIf1_J jt_6_12 jp_6_12)
theorem vX0_kin_9 : mStepO h k cX0_kin bl Q Y (9, lv, st, σ) = (mLdA Y 10 lv st σ 0) := mStep_d dX0_kin_9
theorem vX0_kin_10 : mStepO h k cX0_kin bl Q Y (10, lv, st, σ) = (mLdI Y 11 lv st σ 1) := mStep_d dX0_kin_10
theorem vX0_kin_11 : mStepO h k cX0_kin bl Q Y (11, lv, st, σ) = (mLdI Y 12 lv st σ 2) := mStep_d dX0_kin_11
theorem vX0_kin_12 : mStepO h k cX0_kin bl Q Y (12, lv, st, σ) = (mCaV k Y 15 lv st σ 114) := mStep_d dX0_kin_12
theorem vX0_kin_15 : mStepO h k cX0_kin bl Q Y (15, lv, st, σ) = (Y (20, lv, st, σ)) := (mStep_d dX0_kin_15).trans (mJ_J jt_15_5 jp_15_5)
theorem vX0_kin_18 : mStepO h k cX0_kin bl Q Y (18, lv, st, σ) = (mKon k Y 20 lv st σ 117) := mStep_d dX0_kin_18
theorem vX0_kin_20 : mStepO h k cX0_kin bl Q Y (20, lv, st, σ) = (mRetI bl Q st σ) := mStep_d dX0_kin_20
theorem vX0_near_0 : mStepO h k cX0_near bl Q Y (0, lv, st, σ) = (mLdA Y 1 lv st σ 0) := mStep_d dX0_near_0
theorem vX0_near_1 : mStepO h k cX0_near bl Q Y (1, lv, st, σ) = (mLdI Y 2 lv st σ 1) := mStep_d dX0_near_1
theorem vX0_near_2 : mStepO h k cX0_near bl Q Y (2, lv, st, σ) = (mCaV k Y 5 lv st σ 63) := mStep_d dX0_near_2
theorem vX0_near_5 : mStepO h k cX0_near bl Q Y (5, lv, st, σ) = (mJ1 Y 22 8 lv st σ (fun x => x = 0)) := (mStep_d dX0_near_5).trans (mIf1_J jt_5_17 jp_5_17)
theorem vX0_near_8 : mStepO h k cX0_near bl Q Y (8, lv, st, σ) = (mLdI Y 9 lv st σ 2) := mStep_d dX0_near_8
theorem vX0_near_9 : mStepO h k cX0_near bl Q Y (9, lv, st, σ) = (mJ1 Y 22 12 lv st σ (fun x => x < 0)) := (mStep_d dX0_near_9).trans (mIf1_J jt_9_13 jp_9_13)
theorem vX0_near_12 : mStepO h k cX0_near bl Q Y (12, lv, st, σ) = (mLdI Y 13 lv st σ 2) := mStep_d dX0_near_12
theorem vX0_near_13 : mStepO h k cX0_near bl Q Y (13, lv, st, σ) = (mLdA Y 14 lv st σ 0) := mStep_d dX0_near_13
theorem vX0_near_14 : mStepO h k cX0_near bl Q Y (14, lv, st, σ) = (mGet h k Y 17 lv st σ 53) := mStep_d dX0_near_14
theorem vX0_near_17 : mStepO h k cX0_near bl Q Y (17, lv, st, σ) = (Y (18, lv, .int (1) :: st, σ)) := by rw [mStep_d dX0_near_17, ← mx_c1]; rfl
theorem vX0_near_18 : mStepO h k cX0_near bl Q Y (18, lv, st, σ) = (mBin Y 19 lv st σ (fun x y => x - y)) := mStep_d dX0_near_18
theorem vX0_near_19 : mStepO h k cX0_near bl Q Y (19, lv, st, σ) = (mJ2 Y 24 22 lv st σ (fun x y => x < y)) := (mStep_d dX0_near_19).trans (mIf2_J jt_19_5 jp_19_5)
theorem vX0_near_22 : mStepO h k cX0_near bl Q Y (22, lv, st, σ) = (Y (23, lv, .int (-1) :: st, σ)) := by rw [mStep_d dX0_near_22, ← mx_cm1]; rfl
theorem vX0_near_23 : mStepO h k cX0_near bl Q Y (23, lv, st, σ) = (mRetI bl Q st σ) := mStep_d dX0_near_23
theorem vX0_near_24 : mStepO h k cX0_near bl Q Y (24, lv, st, σ) = (mLdA Y 25 lv st σ 0) := mStep_d dX0_near_24
theorem vX0_near_25 : mStepO h k cX0_near bl Q Y (25, lv, st, σ) = (mCaV k Y 28 lv st σ 97) := mStep_d dX0_near_25
theorem vX0_near_28 : mStepO h k cX0_near bl Q Y (28, lv, st, σ) = (Y (29, lv, .int (1) :: st, σ)) := by rw [mStep_d dX0_near_28, ← mx_c1]; rfl
theorem vX0_near_29 : mStepO h k cX0_near bl Q Y (29, lv, st, σ) = (mLdI Y 30 lv st σ 1) := mStep_d dX0_near_29
theorem vX0_near_30 : mStepO h k cX0_near bl Q Y (30, lv, st, σ) = (mBin Y 31 lv st σ (fun x y => x <<< (y &&& 31))) := mStep_d dX0_near_30
theorem vX0_near_31 : mStepO h k cX0_near bl Q Y (31, lv, st, σ) = (Y (32, lv, .int (-1) :: st, σ)) := by rw [mStep_d dX0_near_31, ← mx_cm1]; rfl
theorem vX0_near_32 : mStepO h k cX0_near bl Q Y (32, lv, st, σ) = (mBin Y 33 lv st σ (fun x y => x ^^^ y)) := mStep_d dX0_near_32
theorem vX0_near_33 : mStepO h k cX0_near bl Q Y (33, lv, st, σ) = (mBin Y 34 lv st σ (fun x y => x &&& y)) := mStep_d dX0_near_33
theorem vX0_near_34 : mStepO h k cX0_near bl Q Y (34, lv, st, σ) = (mStI Y 35 lv st σ 3) := mStep_d dX0_near_34
theorem vX0_near_35 : mStepO h k cX0_near bl Q Y (35, lv, st, σ) = (mLdA Y 36 lv st σ 0) := mStep_d dX0_near_35
theorem vX0_near_36 : mStepO h k cX0_near bl Q Y (36, lv, st, σ) = (mLdI Y 37 lv st σ 1) := mStep_d dX0_near_36
theorem vX0_near_37 : mStepO h k cX0_near bl Q Y (37, lv, st, σ) = (mLdI Y 38 lv st σ 3) := mStep_d dX0_near_37
theorem vX0_near_38 : mStepO h k cX0_near bl Q Y (38, lv, st, σ) = (mCaV k Y 41 lv st σ 118) := mStep_d dX0_near_38
theorem vX0_near_41 : mStepO h k cX0_near bl Q Y (41, lv, st, σ) = (mLdI Y 42 lv st σ 3) := mStep_d dX0_near_41
theorem vX0_near_42 : mStepO h k cX0_near bl Q Y (42, lv, st, σ) = (mStI Y 44 lv st σ 4) := mStep_d dX0_near_42
theorem vX0_near_44 : mStepO h k cX0_near bl Q Y (44, lv, st, σ) = (mLdA Y 45 lv st σ 0) := mStep_d dX0_near_44
theorem vX0_near_45 : mStepO h k cX0_near bl Q Y (45, lv, st, σ) = (mLdI Y 47 lv st σ 4) := mStep_d dX0_near_45
theorem vX0_near_47 : mStepO h k cX0_near bl Q Y (47, lv, st, σ) = (mCaV k Y 50 lv st σ 121) := mStep_d dX0_near_47
theorem vX0_near_50 : mStepO h k cX0_near bl Q Y (50, lv, st, σ) = (mStI Y 52 lv st σ 5) := mStep_d dX0_near_50
theorem vX0_near_52 : mStepO h k cX0_near bl Q Y (52, lv, st, σ) = (Y (53, lv, .int (0) :: st, σ)) := by rw [mStep_d dX0_near_52, ← mx_c0]; rfl
theorem vX0_near_53 : mStepO h k cX0_near bl Q Y (53, lv, st, σ) = (mStI Y 55 lv st σ 6) := mStep_d dX0_near_53
theorem vX0_near_55 : mStepO h k cX0_near bl Q Y (55, lv, st, σ) = (mLdI Y 57 lv st σ 6) := mStep_d dX0_near_55
theorem vX0_near_57 : mStepO h k cX0_near bl Q Y (57, lv, st, σ) = (mLdI Y 58 lv st σ 2) := mStep_d dX0_near_57
theorem vX0_near_58 : mStepO h k cX0_near bl Q Y (58, lv, st, σ) = (mJ2 Y 86 61 lv st σ (fun x y => y ≤ x)) := (mStep_d dX0_near_58).trans (mIf2_J jt_58_28 jp_58_28)
theorem vX0_near_61 : mStepO h k cX0_near bl Q Y (61, lv, st, σ) = (mLdI Y 63 lv st σ 4) := mStep_d dX0_near_61
theorem vX0_near_63 : mStepO h k cX0_near bl Q Y (63, lv, st, σ) = (Y (64, lv, .int (1) :: st, σ)) := by rw [mStep_d dX0_near_63, ← mx_c1]; rfl
theorem vX0_near_64 : mStepO h k cX0_near bl Q Y (64, lv, st, σ) = (mLdI Y 66 lv st σ 5) := mStep_d dX0_near_64
theorem vX0_near_66 : mStepO h k cX0_near bl Q Y (66, lv, st, σ) = (mBin Y 67 lv st σ (fun x y => x <<< (y &&& 31))) := mStep_d dX0_near_66
theorem vX0_near_67 : mStepO h k cX0_near bl Q Y (67, lv, st, σ) = (Y (68, lv, .int (-1) :: st, σ)) := by rw [mStep_d dX0_near_67, ← mx_cm1]; rfl
theorem vX0_near_68 : mStepO h k cX0_near bl Q Y (68, lv, st, σ) = (mBin Y 69 lv st σ (fun x y => x ^^^ y)) := mStep_d dX0_near_68
theorem vX0_near_69 : mStepO h k cX0_near bl Q Y (69, lv, st, σ) = (mBin Y 70 lv st σ (fun x y => x &&& y)) := mStep_d dX0_near_69
theorem vX0_near_70 : mStepO h k cX0_near bl Q Y (70, lv, st, σ) = (mStI Y 72 lv st σ 4) := mStep_d dX0_near_70
theorem vX0_near_72 : mStepO h k cX0_near bl Q Y (72, lv, st, σ) = (mLdA Y 73 lv st σ 0) := mStep_d dX0_near_72
theorem vX0_near_73 : mStepO h k cX0_near bl Q Y (73, lv, st, σ) = (mLdI Y 75 lv st σ 4) := mStep_d dX0_near_73
theorem vX0_near_75 : mStepO h k cX0_near bl Q Y (75, lv, st, σ) = (mCaV k Y 78 lv st σ 121) := mStep_d dX0_near_75
theorem vX0_near_78 : mStepO h k cX0_near bl Q Y (78, lv, st, σ) = (mStI Y 80 lv st σ 5) := mStep_d dX0_near_78
theorem vX0_near_80 : mStepO h k cX0_near bl Q Y (80, lv, st, σ) = (mInc Y 83 lv st σ 6 (1)) := by rw [mStep_d dX0_near_80, ← mx_c1]; rfl
theorem vX0_near_83 : mStepO h k cX0_near bl Q Y (83, lv, st, σ) = (Y (55, lv, st, σ)) := (mStep_d dX0_near_83).trans (mJ_J jt_83_m28 jp_83_m28)
theorem vX0_near_86 : mStepO h k cX0_near bl Q Y (86, lv, st, σ) = (mLdI Y 88 lv st σ 5) := mStep_d dX0_near_86
theorem vX0_near_88 : mStepO h k cX0_near bl Q Y (88, lv, st, σ) = (mRetI bl Q st σ) := mStep_d dX0_near_88
theorem vX0_taken_0 : mStepO h k cX0_taken bl Q Y (0, lv, st, σ) = (mLdI Y 1 lv st σ 1) := mStep_d dX0_taken_0
theorem vX0_taken_1 : mStepO h k cX0_taken bl Q Y (1, lv, st, σ) = (mCaS k Y 4 lv st σ 77) := mStep_d dX0_taken_1
theorem vX0_taken_4 : mStepO h k cX0_taken bl Q Y (4, lv, st, σ) = (mJ1 Y 15 7 lv st σ (fun x => x = 0)) := (mStep_d dX0_taken_4).trans (mIf1_J jt_4_11 jp_4_11)
theorem vX0_taken_7 : mStepO h k cX0_taken bl Q Y (7, lv, st, σ) = (mLdA Y 8 lv st σ 0) := mStep_d dX0_taken_7
theorem vX0_taken_8 : mStepO h k cX0_taken bl Q Y (8, lv, st, σ) = (mLdI Y 9 lv st σ 1) := mStep_d dX0_taken_8
theorem vX0_taken_9 : mStepO h k cX0_taken bl Q Y (9, lv, st, σ) = (mCaV k Y 12 lv st σ 125) := mStep_d dX0_taken_9
theorem vX0_taken_12 : mStepO h k cX0_taken bl Q Y (12, lv, st, σ) = (Y (16, lv, st, σ)) := (mStep_d dX0_taken_12).trans (mJ_J jt_12_4 jp_12_4)
theorem vX0_taken_15 : mStepO h k cX0_taken bl Q Y (15, lv, st, σ) = (Y (16, lv, .int (-1) :: st, σ)) := by rw [mStep_d dX0_taken_15, ← mx_cm1]; rfl
theorem vX0_taken_16 : mStepO h k cX0_taken bl Q Y (16, lv, st, σ) = (mRetI bl Q st σ) := mStep_d dX0_taken_16
theorem vX0_score_0 : mStepO h k cX0_score bl Q Y (0, lv, st, σ) = (mLdI Y 1 lv st σ 1) := mStep_d dX0_score_0
theorem vX0_score_1 : mStepO h k cX0_score bl Q Y (1, lv, st, σ) = (mCaS k Y 4 lv st σ 77) := mStep_d dX0_score_1
theorem vX0_score_4 : mStepO h k cX0_score bl Q Y (4, lv, st, σ) = (mJ1 Y 28 7 lv st σ (fun x => x = 0)) := (mStep_d dX0_score_4).trans (mIf1_J jt_4_24 jp_4_24)
theorem vX0_score_7 : mStepO h k cX0_score bl Q Y (7, lv, st, σ) = (mLdA Y 8 lv st σ 0) := mStep_d dX0_score_7
theorem vX0_score_8 : mStepO h k cX0_score bl Q Y (8, lv, st, σ) = (mLdI Y 9 lv st σ 2) := mStep_d dX0_score_8
theorem vX0_score_9 : mStepO h k cX0_score bl Q Y (9, lv, st, σ) = (mCaV k Y 12 lv st σ 63) := mStep_d dX0_score_9
theorem vX0_score_12 : mStepO h k cX0_score bl Q Y (12, lv, st, σ) = (mJ1 Y 28 15 lv st σ (fun x => x = 0)) := (mStep_d dX0_score_12).trans (mIf1_J jt_12_16 jp_12_16)
theorem vX0_score_15 : mStepO h k cX0_score bl Q Y (15, lv, st, σ) = (mLdA Y 16 lv st σ 0) := mStep_d dX0_score_15
theorem vX0_score_16 : mStepO h k cX0_score bl Q Y (16, lv, st, σ) = (mLdA Y 17 lv st σ 0) := mStep_d dX0_score_16
theorem vX0_score_17 : mStepO h k cX0_score bl Q Y (17, lv, st, σ) = (mLdI Y 18 lv st σ 1) := mStep_d dX0_score_17
theorem vX0_score_18 : mStepO h k cX0_score bl Q Y (18, lv, st, σ) = (mCaV k Y 21 lv st σ 125) := mStep_d dX0_score_18
theorem vX0_score_21 : mStepO h k cX0_score bl Q Y (21, lv, st, σ) = (mLdI Y 22 lv st σ 2) := mStep_d dX0_score_21
theorem vX0_score_22 : mStepO h k cX0_score bl Q Y (22, lv, st, σ) = (mCaV k Y 25 lv st σ 128) := mStep_d dX0_score_22
theorem vX0_score_25 : mStepO h k cX0_score bl Q Y (25, lv, st, σ) = (Y (30, lv, st, σ)) := (mStep_d dX0_score_25).trans (mJ_J jt_25_5 jp_25_5)
theorem vX0_score_28 : mStepO h k cX0_score bl Q Y (28, lv, st, σ) = (mKon k Y 30 lv st σ 117) := mStep_d dX0_score_28
theorem vX0_score_30 : mStepO h k cX0_score bl Q Y (30, lv, st, σ) = (mRetI bl Q st σ) := mStep_d dX0_score_30
theorem vX0_may_0 : mStepO h k cX0_may bl Q Y (0, lv, st, σ) = (mLdI Y 1 lv st σ 1) := mStep_d dX0_may_0
theorem vX0_may_1 : mStepO h k cX0_may bl Q Y (1, lv, st, σ) = (mCaS k Y 4 lv st σ 77) := mStep_d dX0_may_1
theorem vX0_may_4 : mStepO h k cX0_may bl Q Y (4, lv, st, σ) = (mJ1 Y 15 7 lv st σ (fun x => x = 0)) := (mStep_d dX0_may_4).trans (mIf1_J jt_4_11 jp_4_11)
theorem vX0_may_7 : mStepO h k cX0_may bl Q Y (7, lv, st, σ) = (mLdA Y 8 lv st σ 0) := mStep_d dX0_may_7
theorem vX0_may_8 : mStepO h k cX0_may bl Q Y (8, lv, st, σ) = (mLdI Y 9 lv st σ 1) := mStep_d dX0_may_8
theorem vX0_may_9 : mStepO h k cX0_may bl Q Y (9, lv, st, σ) = (mCaV k Y 12 lv st σ 131) := mStep_d dX0_may_9
theorem vX0_may_12 : mStepO h k cX0_may bl Q Y (12, lv, st, σ) = (Y (16, lv, st, σ)) := (mStep_d dX0_may_12).trans (mJ_J jt_12_4 jp_12_4)
theorem vX0_may_15 : mStepO h k cX0_may bl Q Y (15, lv, st, σ) = (Y (16, lv, .int (-1) :: st, σ)) := by rw [mStep_d dX0_may_15, ← mx_cm1]; rfl
theorem vX0_may_16 : mStepO h k cX0_may bl Q Y (16, lv, st, σ) = (mRetI bl Q st σ) := mStep_d dX0_may_16
theorem vX0_list_0 : mStepO h k cX0_list bl Q Y (0, lv, st, σ) = (mLdA Y 1 lv st σ 0) := mStep_d dX0_list_0
theorem vX0_list_1 : mStepO h k cX0_list bl Q Y (1, lv, st, σ) = (mLdI Y 2 lv st σ 1) := mStep_d dX0_list_1
theorem vX0_list_2 : mStepO h k cX0_list bl Q Y (2, lv, st, σ) = (mLdI Y 3 lv st σ 2) := mStep_d dX0_list_2
theorem vX0_list_3 : mStepO h k cX0_list bl Q Y (3, lv, st, σ) = (mCaV k Y 6 lv st σ 134) := mStep_d dX0_list_3
theorem vX0_list_6 : mStepO h k cX0_list bl Q Y (6, lv, st, σ) = (mJ1 Y 18 9 lv st σ (fun x => x = 0)) := (mStep_d dX0_list_6).trans (mIf1_J jt_6_12 jp_6_12)
theorem vX0_list_9 : mStepO h k cX0_list bl Q Y (9, lv, st, σ) = (mLdI Y 10 lv st σ 3) := mStep_d dX0_list_9
theorem vX0_list_10 : mStepO h k cX0_list bl Q Y (10, lv, st, σ) = (mJ1 Y 18 13 lv st σ (fun x => x < 0)) := (mStep_d dX0_list_10).trans (mIf1_J jt_10_8 jp_10_8)
theorem vX0_list_13 : mStepO h k cX0_list bl Q Y (13, lv, st, σ) = (mLdI Y 14 lv st σ 3) := mStep_d dX0_list_13
theorem vX0_list_14 : mStepO h k cX0_list bl Q Y (14, lv, st, σ) = (Y (15, lv, .int (1) :: st, σ)) := by rw [mStep_d dX0_list_14, ← mx_c1]; rfl
theorem vX0_list_15 : mStepO h k cX0_list bl Q Y (15, lv, st, σ) = (mJ2 Y 21 18 lv st σ (fun x y => x ≤ y)) := (mStep_d dX0_list_15).trans (mIf2_J jt_15_6 jp_15_6)
theorem vX0_list_18 : mStepO h k cX0_list bl Q Y (18, lv, st, σ) = (mKon k Y 20 lv st σ 117) := mStep_d dX0_list_18
theorem vX0_list_20 : mStepO h k cX0_list bl Q Y (20, lv, st, σ) = (mRetI bl Q st σ) := mStep_d dX0_list_20
theorem vX0_list_21 : mStepO h k cX0_list bl Q Y (21, lv, st, σ) = (mLdA Y 22 lv st σ 0) := mStep_d dX0_list_21
theorem vX0_list_22 : mStepO h k cX0_list bl Q Y (22, lv, st, σ) = (mLdI Y 23 lv st σ 1) := mStep_d dX0_list_22
theorem vX0_list_23 : mStepO h k cX0_list bl Q Y (23, lv, st, σ) = (mLdI Y 24 lv st σ 2) := mStep_d dX0_list_23
theorem vX0_list_24 : mStepO h k cX0_list bl Q Y (24, lv, st, σ) = (mCaV k Y 27 lv st σ 137) := mStep_d dX0_list_24
theorem vX0_list_27 : mStepO h k cX0_list bl Q Y (27, lv, st, σ) = (mStI Y 29 lv st σ 4) := mStep_d dX0_list_27
theorem vX0_list_29 : mStepO h k cX0_list bl Q Y (29, lv, st, σ) = (mLdI Y 30 lv st σ 3) := mStep_d dX0_list_29
theorem vX0_list_30 : mStepO h k cX0_list bl Q Y (30, lv, st, σ) = (mN1 Y 38 33 lv st σ) := (mStep_d dX0_list_30).trans (mIfN1_J jt_30_8 jp_30_8)
theorem vX0_list_33 : mStepO h k cX0_list bl Q Y (33, lv, st, σ) = (mLdI Y 35 lv st σ 4) := mStep_d dX0_list_33
theorem vX0_list_35 : mStepO h k cX0_list bl Q Y (35, lv, st, σ) = (Y (44, lv, st, σ)) := (mStep_d dX0_list_35).trans (mJ_J jt_35_9 jp_35_9)
theorem vX0_list_38 : mStepO h k cX0_list bl Q Y (38, lv, st, σ) = (mLdA Y 39 lv st σ 0) := mStep_d dX0_list_38
theorem vX0_list_39 : mStepO h k cX0_list bl Q Y (39, lv, st, σ) = (mLdI Y 41 lv st σ 4) := mStep_d dX0_list_39
theorem vX0_list_41 : mStepO h k cX0_list bl Q Y (41, lv, st, σ) = (mCaV k Y 44 lv st σ 140) := mStep_d dX0_list_41
theorem vX0_list_44 : mStepO h k cX0_list bl Q Y (44, lv, st, σ) = (mRetI bl Q st σ) := mStep_d dX0_list_44
theorem vX0_show_0 : mStepO h k cX0_show bl Q Y (0, lv, st, σ) = (mLdA Y 1 lv st σ 0) := mStep_d dX0_show_0
theorem vX0_show_1 : mStepO h k cX0_show bl Q Y (1, lv, st, σ) = (mLdI Y 2 lv st σ 1) := mStep_d dX0_show_1
theorem vX0_show_2 : mStepO h k cX0_show bl Q Y (2, lv, st, σ) = (mLdI Y 3 lv st σ 2) := mStep_d dX0_show_2
theorem vX0_show_3 : mStepO h k cX0_show bl Q Y (3, lv, st, σ) = (mCaV k Y 6 lv st σ 134) := mStep_d dX0_show_3
theorem vX0_show_6 : mStepO h k cX0_show bl Q Y (6, lv, st, σ) = (mN1 Y 11 9 lv st σ) := (mStep_d dX0_show_6).trans (mIfN1_J jt_6_5 jp_6_5)
theorem vX0_show_9 : mStepO h k cX0_show bl Q Y (9, lv, st, σ) = (Y (10, lv, .int (-1) :: st, σ)) := by rw [mStep_d dX0_show_9, ← mx_cm1]; rfl
theorem vX0_show_10 : mStepO h k cX0_show bl Q Y (10, lv, st, σ) = (mRetI bl Q st σ) := mStep_d dX0_show_10
theorem vX0_show_11 : mStepO h k cX0_show bl Q Y (11, lv, st, σ) = (mLdA Y 12 lv st σ 0) := mStep_d dX0_show_11
theorem vX0_show_12 : mStepO h k cX0_show bl Q Y (12, lv, st, σ) = (mLdI Y 13 lv st σ 1) := mStep_d dX0_show_12
theorem vX0_show_13 : mStepO h k cX0_show bl Q Y (13, lv, st, σ) = (mLdI Y 14 lv st σ 2) := mStep_d dX0_show_13
theorem vX0_show_14 : mStepO h k cX0_show bl Q Y (14, lv, st, σ) = (mCaV k Y 17 lv st σ 137) := mStep_d dX0_show_14
theorem vX0_show_17 : mStepO h k cX0_show bl Q Y (17, lv, st, σ) = (mStI Y 18 lv st σ 3) := mStep_d dX0_show_17
theorem vX0_show_18 : mStepO h k cX0_show bl Q Y (18, lv, st, σ) = (mLdA Y 19 lv st σ 0) := mStep_d dX0_show_18
theorem vX0_show_19 : mStepO h k cX0_show bl Q Y (19, lv, st, σ) = (mGet h k Y 22 lv st σ 39) := mStep_d dX0_show_19
theorem vX0_show_22 : mStepO h k cX0_show bl Q Y (22, lv, st, σ) = (mLdI Y 23 lv st σ 1) := mStep_d dX0_show_22
theorem vX0_show_23 : mStepO h k cX0_show bl Q Y (23, lv, st, σ) = (mDup2 Y 24 lv st σ) := mStep_d dX0_show_23
theorem vX0_show_24 : mStepO h k cX0_show bl Q Y (24, lv, st, σ) = (mLdE h Y 25 lv st σ) := mStep_d dX0_show_24
theorem vX0_show_25 : mStepO h k cX0_show bl Q Y (25, lv, st, σ) = (Y (26, lv, .int (1) :: st, σ)) := by rw [mStep_d dX0_show_25, ← mx_c1]; rfl
theorem vX0_show_26 : mStepO h k cX0_show bl Q Y (26, lv, st, σ) = (mBin Y 27 lv st σ (fun x y => x + y)) := mStep_d dX0_show_26
theorem vX0_show_27 : mStepO h k cX0_show bl Q Y (27, lv, st, σ) = (mStE h Y 28 lv st σ) := mStep_d dX0_show_27
theorem vX0_show_28 : mStepO h k cX0_show bl Q Y (28, lv, st, σ) = (Y (29, lv, .int (0) :: st, σ)) := by rw [mStep_d dX0_show_28, ← mx_c0]; rfl
theorem vX0_show_29 : mStepO h k cX0_show bl Q Y (29, lv, st, σ) = (mStI Y 31 lv st σ 4) := mStep_d dX0_show_29
theorem vX0_show_31 : mStepO h k cX0_show bl Q Y (31, lv, st, σ) = (mLdI Y 33 lv st σ 4) := mStep_d dX0_show_31
theorem vX0_show_33 : mStepO h k cX0_show bl Q Y (33, lv, st, σ) = (mLdA Y 34 lv st σ 0) := mStep_d dX0_show_33
theorem vX0_show_34 : mStepO h k cX0_show bl Q Y (34, lv, st, σ) = (mGet h k Y 37 lv st σ 53) := mStep_d dX0_show_34
theorem vX0_show_37 : mStepO h k cX0_show bl Q Y (37, lv, st, σ) = (mJ2 Y 62 40 lv st σ (fun x y => y ≤ x)) := (mStep_d dX0_show_37).trans (mIf2_J jt_37_25 jp_37_25)
theorem vX0_show_40 : mStepO h k cX0_show bl Q Y (40, lv, st, σ) = (mLdI Y 41 lv st σ 3) := mStep_d dX0_show_40
theorem vX0_show_41 : mStepO h k cX0_show bl Q Y (41, lv, st, σ) = (mLdI Y 43 lv st σ 4) := mStep_d dX0_show_41
theorem vX0_show_43 : mStepO h k cX0_show bl Q Y (43, lv, st, σ) = (mCaS k Y 46 lv st σ 67) := mStep_d dX0_show_43
theorem vX0_show_46 : mStepO h k cX0_show bl Q Y (46, lv, st, σ) = (mJ1 Y 56 49 lv st σ (fun x => x = 0)) := (mStep_d dX0_show_46).trans (mIf1_J jt_46_10 jp_46_10)
theorem vX0_show_49 : mStepO h k cX0_show bl Q Y (49, lv, st, σ) = (mLdA Y 50 lv st σ 0) := mStep_d dX0_show_49
theorem vX0_show_50 : mStepO h k cX0_show bl Q Y (50, lv, st, σ) = (mLdI Y 51 lv st σ 1) := mStep_d dX0_show_50
theorem vX0_show_51 : mStepO h k cX0_show bl Q Y (51, lv, st, σ) = (mLdI Y 53 lv st σ 4) := mStep_d dX0_show_51
theorem vX0_show_53 : mStepO h k cX0_show bl Q Y (53, lv, st, σ) = (mCaV k Y 56 lv st σ 143) := mStep_d dX0_show_53
theorem vX0_show_56 : mStepO h k cX0_show bl Q Y (56, lv, st, σ) = (mInc Y 59 lv st σ 4 (1)) := by rw [mStep_d dX0_show_56, ← mx_c1]; rfl
theorem vX0_show_59 : mStepO h k cX0_show bl Q Y (59, lv, st, σ) = (Y (31, lv, st, σ)) := (mStep_d dX0_show_59).trans (mJ_J jt_59_m28 jp_59_m28)
theorem vX0_show_62 : mStepO h k cX0_show bl Q Y (62, lv, st, σ) = (mLdI Y 63 lv st σ 3) := mStep_d dX0_show_62
theorem vX0_show_63 : mStepO h k cX0_show bl Q Y (63, lv, st, σ) = (mRetI bl Q st σ) := mStep_d dX0_show_63
theorem vX0_shown_0 : mStepO h k cX0_shown bl Q Y (0, lv, st, σ) = (mLdI Y 1 lv st σ 1) := mStep_d dX0_shown_0
theorem vX0_shown_1 : mStepO h k cX0_shown bl Q Y (1, lv, st, σ) = (mCaS k Y 4 lv st σ 77) := mStep_d dX0_shown_1
theorem vX0_shown_4 : mStepO h k cX0_shown bl Q Y (4, lv, st, σ) = (mN1 Y 9 7 lv st σ) := (mStep_d dX0_shown_4).trans (mIfN1_J jt_4_5 jp_4_5)
theorem vX0_shown_7 : mStepO h k cX0_shown bl Q Y (7, lv, st, σ) = (Y (8, lv, .int (-1) :: st, σ)) := by rw [mStep_d dX0_shown_7, ← mx_cm1]; rfl
theorem vX0_shown_8 : mStepO h k cX0_shown bl Q Y (8, lv, st, σ) = (mRetI bl Q st σ) := mStep_d dX0_shown_8
theorem vX0_shown_9 : mStepO h k cX0_shown bl Q Y (9, lv, st, σ) = (mLdI Y 10 lv st σ 3) := mStep_d dX0_shown_9
theorem vX0_shown_10 : mStepO h k cX0_shown bl Q Y (10, lv, st, σ) = (Y (11, lv, .int (2) :: st, σ)) := by rw [mStep_d dX0_shown_10, ← mx_c2]; rfl
theorem vX0_shown_11 : mStepO h k cX0_shown bl Q Y (11, lv, st, σ) = (mN2 Y 30 14 lv st σ) := (mStep_d dX0_shown_11).trans (mIfN2_J jt_11_19 jp_11_19)
theorem vX0_shown_14 : mStepO h k cX0_shown bl Q Y (14, lv, st, σ) = (mLdI Y 15 lv st σ 2) := mStep_d dX0_shown_14
theorem vX0_shown_15 : mStepO h k cX0_shown bl Q Y (15, lv, st, σ) = (Y (16, lv, .int (-1) :: st, σ)) := by rw [mStep_d dX0_shown_15, ← mx_cm1]; rfl
theorem vX0_shown_16 : mStepO h k cX0_shown bl Q Y (16, lv, st, σ) = (mN2 Y 28 19 lv st σ) := (mStep_d dX0_shown_16).trans (mIfN2_J jt_16_12 jp_16_12)
theorem vX0_shown_19 : mStepO h k cX0_shown bl Q Y (19, lv, st, σ) = (mLdA Y 20 lv st σ 0) := mStep_d dX0_shown_19
theorem vX0_shown_20 : mStepO h k cX0_shown bl Q Y (20, lv, st, σ) = (mGet h k Y 23 lv st σ 39) := mStep_d dX0_shown_20
theorem vX0_shown_23 : mStepO h k cX0_shown bl Q Y (23, lv, st, σ) = (mLdI Y 24 lv st σ 1) := mStep_d dX0_shown_23
theorem vX0_shown_24 : mStepO h k cX0_shown bl Q Y (24, lv, st, σ) = (mLdE h Y 25 lv st σ) := mStep_d dX0_shown_24
theorem vX0_shown_25 : mStepO h k cX0_shown bl Q Y (25, lv, st, σ) = (Y (29, lv, st, σ)) := (mStep_d dX0_shown_25).trans (mJ_J jt_25_4 jp_25_4)
theorem vX0_shown_28 : mStepO h k cX0_shown bl Q Y (28, lv, st, σ) = (Y (29, lv, .int (-1) :: st, σ)) := by rw [mStep_d dX0_shown_28, ← mx_cm1]; rfl
theorem vX0_shown_29 : mStepO h k cX0_shown bl Q Y (29, lv, st, σ) = (mRetI bl Q st σ) := mStep_d dX0_shown_29
theorem vX0_shown_30 : mStepO h k cX0_shown bl Q Y (30, lv, st, σ) = (mLdA Y 31 lv st σ 0) := mStep_d dX0_shown_30
theorem vX0_shown_31 : mStepO h k cX0_shown bl Q Y (31, lv, st, σ) = (mLdI Y 32 lv st σ 2) := mStep_d dX0_shown_31
theorem vX0_shown_32 : mStepO h k cX0_shown bl Q Y (32, lv, st, σ) = (mCaV k Y 35 lv st σ 63) := mStep_d dX0_shown_32
theorem vX0_shown_35 : mStepO h k cX0_shown bl Q Y (35, lv, st, σ) = (mN1 Y 40 38 lv st σ) := (mStep_d dX0_shown_35).trans (mIfN1_J jt_35_5 jp_35_5)
theorem vX0_shown_38 : mStepO h k cX0_shown bl Q Y (38, lv, st, σ) = (Y (39, lv, .int (-1) :: st, σ)) := by rw [mStep_d dX0_shown_38, ← mx_cm1]; rfl
theorem vX0_shown_39 : mStepO h k cX0_shown bl Q Y (39, lv, st, σ) = (mRetI bl Q st σ) := mStep_d dX0_shown_39
theorem vX0_shown_40 : mStepO h k cX0_shown bl Q Y (40, lv, st, σ) = (mLdI Y 41 lv st σ 3) := mStep_d dX0_shown_40
theorem vX0_shown_41 : mStepO h k cX0_shown bl Q Y (41, lv, st, σ) = (mLsw Y 41 lv st σ 43 [(0, 27), (1, 36)]) := mStep_d dX0_shown_41
theorem vX0_shown_68 : mStepO h k cX0_shown bl Q Y (68, lv, st, σ) = (mLdA Y 69 lv st σ 0) := mStep_d dX0_shown_68
theorem vX0_shown_69 : mStepO h k cX0_shown bl Q Y (69, lv, st, σ) = (mGet h k Y 72 lv st σ 44) := mStep_d dX0_shown_69
theorem vX0_shown_72 : mStepO h k cX0_shown bl Q Y (72, lv, st, σ) = (mLdI Y 73 lv st σ 1) := mStep_d dX0_shown_72
theorem vX0_shown_73 : mStepO h k cX0_shown bl Q Y (73, lv, st, σ) = (mLdR h Y 74 lv st σ) := mStep_d dX0_shown_73
theorem vX0_shown_74 : mStepO h k cX0_shown bl Q Y (74, lv, st, σ) = (mLdI Y 75 lv st σ 2) := mStep_d dX0_shown_74
theorem vX0_shown_75 : mStepO h k cX0_shown bl Q Y (75, lv, st, σ) = (mLdE h Y 76 lv st σ) := mStep_d dX0_shown_75
theorem vX0_shown_76 : mStepO h k cX0_shown bl Q Y (76, lv, st, σ) = (mRetI bl Q st σ) := mStep_d dX0_shown_76
theorem vX0_shown_77 : mStepO h k cX0_shown bl Q Y (77, lv, st, σ) = (mLdA Y 78 lv st σ 0) := mStep_d dX0_shown_77
theorem vX0_shown_78 : mStepO h k cX0_shown bl Q Y (78, lv, st, σ) = (mLdI Y 79 lv st σ 1) := mStep_d dX0_shown_78
theorem vX0_shown_79 : mStepO h k cX0_shown bl Q Y (79, lv, st, σ) = (mLdI Y 80 lv st σ 2) := mStep_d dX0_shown_79
theorem vX0_shown_80 : mStepO h k cX0_shown bl Q Y (80, lv, st, σ) = (mCaV k Y 83 lv st σ 146) := mStep_d dX0_shown_80
theorem vX0_shown_83 : mStepO h k cX0_shown bl Q Y (83, lv, st, σ) = (mRetI bl Q st σ) := mStep_d dX0_shown_83
theorem vX0_shown_84 : mStepO h k cX0_shown bl Q Y (84, lv, st, σ) = (Y (85, lv, .int (-1) :: st, σ)) := by rw [mStep_d dX0_shown_84, ← mx_cm1]; rfl
theorem vX0_shown_85 : mStepO h k cX0_shown bl Q Y (85, lv, st, σ) = (mRetI bl Q st σ) := mStep_d dX0_shown_85
theorem vX0_why_0 : mStepO h k cX0_why bl Q Y (0, lv, st, σ) = (mLdI Y 1 lv st σ 1) := mStep_d dX0_why_0
theorem vX0_why_1 : mStepO h k cX0_why bl Q Y (1, lv, st, σ) = (mCaS k Y 4 lv st σ 77) := mStep_d dX0_why_1
theorem vX0_why_4 : mStepO h k cX0_why bl Q Y (4, lv, st, σ) = (mJ1 Y 15 7 lv st σ (fun x => x = 0)) := (mStep_d dX0_why_4).trans (mIf1_J jt_4_11 jp_4_11)
theorem vX0_why_7 : mStepO h k cX0_why bl Q Y (7, lv, st, σ) = (mLdA Y 8 lv st σ 0) := mStep_d dX0_why_7
theorem vX0_why_8 : mStepO h k cX0_why bl Q Y (8, lv, st, σ) = (mLdI Y 9 lv st σ 2) := mStep_d dX0_why_8
theorem vX0_why_9 : mStepO h k cX0_why bl Q Y (9, lv, st, σ) = (mCaV k Y 12 lv st σ 63) := mStep_d dX0_why_9
theorem vX0_why_12 : mStepO h k cX0_why bl Q Y (12, lv, st, σ) = (mN1 Y 18 15 lv st σ) := (mStep_d dX0_why_12).trans (mIfN1_J jt_12_6 jp_12_6)
theorem vX0_why_15 : mStepO h k cX0_why bl Q Y (15, lv, st, σ) = (mKon k Y 17 lv st σ 117) := mStep_d dX0_why_15
theorem vX0_why_17 : mStepO h k cX0_why bl Q Y (17, lv, st, σ) = (mRetI bl Q st σ) := mStep_d dX0_why_17
theorem vX0_why_18 : mStepO h k cX0_why bl Q Y (18, lv, st, σ) = (mLdA Y 19 lv st σ 0) := mStep_d dX0_why_18
theorem vX0_why_19 : mStepO h k cX0_why bl Q Y (19, lv, st, σ) = (mLdI Y 20 lv st σ 1) := mStep_d dX0_why_19
theorem vX0_why_20 : mStepO h k cX0_why bl Q Y (20, lv, st, σ) = (mCaV k Y 23 lv st σ 125) := mStep_d dX0_why_20
theorem vX0_why_23 : mStepO h k cX0_why bl Q Y (23, lv, st, σ) = (Y (24, lv, .int (1) :: st, σ)) := by rw [mStep_d dX0_why_23, ← mx_c1]; rfl
theorem vX0_why_24 : mStepO h k cX0_why bl Q Y (24, lv, st, σ) = (mLdI Y 25 lv st σ 2) := mStep_d dX0_why_24
theorem vX0_why_25 : mStepO h k cX0_why bl Q Y (25, lv, st, σ) = (mBin Y 26 lv st σ (fun x y => x <<< (y &&& 31))) := mStep_d dX0_why_25
theorem vX0_why_26 : mStepO h k cX0_why bl Q Y (26, lv, st, σ) = (Y (27, lv, .int (-1) :: st, σ)) := by rw [mStep_d dX0_why_26, ← mx_cm1]; rfl
theorem vX0_why_27 : mStepO h k cX0_why bl Q Y (27, lv, st, σ) = (mBin Y 28 lv st σ (fun x y => x ^^^ y)) := mStep_d dX0_why_27
theorem vX0_why_28 : mStepO h k cX0_why bl Q Y (28, lv, st, σ) = (mBin Y 29 lv st σ (fun x y => x &&& y)) := mStep_d dX0_why_28
theorem vX0_why_29 : mStepO h k cX0_why bl Q Y (29, lv, st, σ) = (mStI Y 31 lv st σ 4) := mStep_d dX0_why_29
theorem vX0_why_31 : mStepO h k cX0_why bl Q Y (31, lv, st, σ) = (mLdI Y 33 lv st σ 4) := mStep_d dX0_why_31
theorem vX0_why_33 : mStepO h k cX0_why bl Q Y (33, lv, st, σ) = (mN1 Y 39 36 lv st σ) := (mStep_d dX0_why_33).trans (mIfN1_J jt_33_6 jp_33_6)
theorem vX0_why_36 : mStepO h k cX0_why bl Q Y (36, lv, st, σ) = (mKon k Y 38 lv st σ 117) := mStep_d dX0_why_36
theorem vX0_why_38 : mStepO h k cX0_why bl Q Y (38, lv, st, σ) = (mRetI bl Q st σ) := mStep_d dX0_why_38
theorem vX0_why_39 : mStepO h k cX0_why bl Q Y (39, lv, st, σ) = (mLdA Y 40 lv st σ 0) := mStep_d dX0_why_39
theorem vX0_why_40 : mStepO h k cX0_why bl Q Y (40, lv, st, σ) = (mLdI Y 41 lv st σ 2) := mStep_d dX0_why_40
theorem vX0_why_41 : mStepO h k cX0_why bl Q Y (41, lv, st, σ) = (mLdI Y 43 lv st σ 4) := mStep_d dX0_why_41
theorem vX0_why_43 : mStepO h k cX0_why bl Q Y (43, lv, st, σ) = (mCaV k Y 46 lv st σ 118) := mStep_d dX0_why_43
theorem vX0_why_46 : mStepO h k cX0_why bl Q Y (46, lv, st, σ) = (mLdA Y 47 lv st σ 0) := mStep_d dX0_why_46
theorem vX0_why_47 : mStepO h k cX0_why bl Q Y (47, lv, st, σ) = (mLdI Y 49 lv st σ 4) := mStep_d dX0_why_47
theorem vX0_why_49 : mStepO h k cX0_why bl Q Y (49, lv, st, σ) = (mCaV k Y 52 lv st σ 121) := mStep_d dX0_why_49
theorem vX0_why_52 : mStepO h k cX0_why bl Q Y (52, lv, st, σ) = (mStI Y 54 lv st σ 5) := mStep_d dX0_why_52
theorem vX0_why_54 : mStepO h k cX0_why bl Q Y (54, lv, st, σ) = (mLdI Y 55 lv st σ 3) := mStep_d dX0_why_54
theorem vX0_why_55 : mStepO h k cX0_why bl Q Y (55, lv, st, σ) = (mTsw Y 55 lv st σ 44 0 2 [25, 28, 36]) := mStep_d dX0_why_55
theorem vX0_why_80 : mStepO h k cX0_why bl Q Y (80, lv, st, σ) = (mLdI Y 82 lv st σ 5) := mStep_d dX0_why_80
theorem vX0_why_82 : mStepO h k cX0_why bl Q Y (82, lv, st, σ) = (mRetI bl Q st σ) := mStep_d dX0_why_82
theorem vX0_why_83 : mStepO h k cX0_why bl Q Y (83, lv, st, σ) = (mLdA Y 84 lv st σ 0) := mStep_d dX0_why_83
theorem vX0_why_84 : mStepO h k cX0_why bl Q Y (84, lv, st, σ) = (mLdI Y 85 lv st σ 2) := mStep_d dX0_why_84
theorem vX0_why_85 : mStepO h k cX0_why bl Q Y (85, lv, st, σ) = (mLdI Y 87 lv st σ 5) := mStep_d dX0_why_85
theorem vX0_why_87 : mStepO h k cX0_why bl Q Y (87, lv, st, σ) = (mCaV k Y 90 lv st σ 114) := mStep_d dX0_why_87
theorem vX0_why_90 : mStepO h k cX0_why bl Q Y (90, lv, st, σ) = (mRetI bl Q st σ) := mStep_d dX0_why_90
theorem vX0_why_91 : mStepO h k cX0_why bl Q Y (91, lv, st, σ) = (mLdA Y 92 lv st σ 0) := mStep_d dX0_why_91
theorem vX0_why_92 : mStepO h k cX0_why bl Q Y (92, lv, st, σ) = (mLdI Y 93 lv st σ 2) := mStep_d dX0_why_92
theorem vX0_why_93 : mStepO h k cX0_why bl Q Y (93, lv, st, σ) = (mLdI Y 95 lv st σ 5) := mStep_d dX0_why_93
theorem vX0_why_95 : mStepO h k cX0_why bl Q Y (95, lv, st, σ) = (mCaV k Y 98 lv st σ 107) := mStep_d dX0_why_95
theorem vX0_why_98 : mStepO h k cX0_why bl Q Y (98, lv, st, σ) = (mRetI bl Q st σ) := mStep_d dX0_why_98
theorem vX0_why_99 : mStepO h k cX0_why bl Q Y (99, lv, st, σ) = (mKon k Y 101 lv st σ 117) := mStep_d dX0_why_99
theorem vX0_why_101 : mStepO h k cX0_why bl Q Y (101, lv, st, σ) = (mRetI bl Q st σ) := mStep_d dX0_why_101
theorem vX0_isThing_0 : mStepO h k cX0_isThing bl Q Y (0, lv, st, σ) = (mLdI Y 1 lv st σ 1) := mStep_d dX0_isThing_0
theorem vX0_isThing_1 : mStepO h k cX0_isThing bl Q Y (1, lv, st, σ) = (mJ1 Y 16 4 lv st σ (fun x => x < 0)) := (mStep_d dX0_isThing_1).trans (mIf1_J jt_1_15 jp_1_15)
theorem vX0_isThing_4 : mStepO h k cX0_isThing bl Q Y (4, lv, st, σ) = (mLdI Y 5 lv st σ 1) := mStep_d dX0_isThing_4
theorem vX0_isThing_5 : mStepO h k cX0_isThing bl Q Y (5, lv, st, σ) = (mLdA Y 6 lv st σ 0) := mStep_d dX0_isThing_5
theorem vX0_isThing_6 : mStepO h k cX0_isThing bl Q Y (6, lv, st, σ) = (mGet h k Y 9 lv st σ 53) := mStep_d dX0_isThing_6
theorem vX0_isThing_9 : mStepO h k cX0_isThing bl Q Y (9, lv, st, σ) = (mJ2 Y 16 12 lv st σ (fun x y => y ≤ x)) := (mStep_d dX0_isThing_9).trans (mIf2_J jt_9_7 jp_9_7)
theorem vX0_isThing_12 : mStepO h k cX0_isThing bl Q Y (12, lv, st, σ) = (Y (13, lv, .int (1) :: st, σ)) := by rw [mStep_d dX0_isThing_12, ← mx_c1]; rfl
theorem vX0_isThing_13 : mStepO h k cX0_isThing bl Q Y (13, lv, st, σ) = (Y (17, lv, st, σ)) := (mStep_d dX0_isThing_13).trans (mJ_J jt_13_4 jp_13_4)
theorem vX0_isThing_16 : mStepO h k cX0_isThing bl Q Y (16, lv, st, σ) = (Y (17, lv, .int (0) :: st, σ)) := by rw [mStep_d dX0_isThing_16, ← mx_c0]; rfl
theorem vX0_isThing_17 : mStepO h k cX0_isThing bl Q Y (17, lv, st, σ) = (mRetI bl Q st σ) := mStep_d dX0_isThing_17
theorem vX0_areTwoThings_0 : mStepO h k cX0_areTwoThings bl Q Y (0, lv, st, σ) = (mLdA Y 1 lv st σ 0) := mStep_d dX0_areTwoThings_0
theorem vX0_areTwoThings_1 : mStepO h k cX0_areTwoThings bl Q Y (1, lv, st, σ) = (mLdI Y 2 lv st σ 1) := mStep_d dX0_areTwoThings_1
theorem vX0_areTwoThings_2 : mStepO h k cX0_areTwoThings bl Q Y (2, lv, st, σ) = (mCaV k Y 5 lv st σ 63) := mStep_d dX0_areTwoThings_2
theorem vX0_areTwoThings_5 : mStepO h k cX0_areTwoThings bl Q Y (5, lv, st, σ) = (mJ1 Y 25 8 lv st σ (fun x => x = 0)) := (mStep_d dX0_areTwoThings_5).trans (mIf1_J jt_5_20 jp_5_20)
theorem vX0_areTwoThings_8 : mStepO h k cX0_areTwoThings bl Q Y (8, lv, st, σ) = (mLdA Y 9 lv st σ 0) := mStep_d dX0_areTwoThings_8
theorem vX0_areTwoThings_9 : mStepO h k cX0_areTwoThings bl Q Y (9, lv, st, σ) = (mLdI Y 10 lv st σ 2) := mStep_d dX0_areTwoThings_9
theorem vX0_areTwoThings_10 : mStepO h k cX0_areTwoThings bl Q Y (10, lv, st, σ) = (mCaV k Y 13 lv st σ 63) := mStep_d dX0_areTwoThings_10
theorem vX0_areTwoThings_13 : mStepO h k cX0_areTwoThings bl Q Y (13, lv, st, σ) = (mJ1 Y 25 16 lv st σ (fun x => x = 0)) := (mStep_d dX0_areTwoThings_13).trans (mIf1_J jt_13_12 jp_13_12)
theorem vX0_areTwoThings_16 : mStepO h k cX0_areTwoThings bl Q Y (16, lv, st, σ) = (mLdI Y 17 lv st σ 1) := mStep_d dX0_areTwoThings_16
theorem vX0_areTwoThings_17 : mStepO h k cX0_areTwoThings bl Q Y (17, lv, st, σ) = (mLdI Y 18 lv st σ 2) := mStep_d dX0_areTwoThings_17
theorem vX0_areTwoThings_18 : mStepO h k cX0_areTwoThings bl Q Y (18, lv, st, σ) = (mJ2 Y 25 21 lv st σ (fun x y => x = y)) := (mStep_d dX0_areTwoThings_18).trans (mIf2_J jt_18_7 jp_18_7)
theorem vX0_areTwoThings_21 : mStepO h k cX0_areTwoThings bl Q Y (21, lv, st, σ) = (Y (22, lv, .int (1) :: st, σ)) := by rw [mStep_d dX0_areTwoThings_21, ← mx_c1]; rfl
theorem vX0_areTwoThings_22 : mStepO h k cX0_areTwoThings bl Q Y (22, lv, st, σ) = (Y (26, lv, st, σ)) := (mStep_d dX0_areTwoThings_22).trans (mJ_J jt_22_4 jp_22_4)
theorem vX0_areTwoThings_25 : mStepO h k cX0_areTwoThings bl Q Y (25, lv, st, σ) = (Y (26, lv, .int (0) :: st, σ)) := by rw [mStep_d dX0_areTwoThings_25, ← mx_c0]; rfl
theorem vX0_areTwoThings_26 : mStepO h k cX0_areTwoThings bl Q Y (26, lv, st, σ) = (mRetI bl Q st σ) := mStep_d dX0_areTwoThings_26
theorem vX0_isSetOfThings_0 : mStepO h k cX0_isSetOfThings bl Q Y (0, lv, st, σ) = (mLdI Y 1 lv st σ 1) := mStep_d dX0_isSetOfThings_0
theorem vX0_isSetOfThings_1 : mStepO h k cX0_isSetOfThings bl Q Y (1, lv, st, σ) = (mLdA Y 2 lv st σ 0) := mStep_d dX0_isSetOfThings_1
theorem vX0_isSetOfThings_2 : mStepO h k cX0_isSetOfThings bl Q Y (2, lv, st, σ) = (mCaV k Y 5 lv st σ 97) := mStep_d dX0_isSetOfThings_2
theorem vX0_isSetOfThings_5 : mStepO h k cX0_isSetOfThings bl Q Y (5, lv, st, σ) = (Y (6, lv, .int (-1) :: st, σ)) := by rw [mStep_d dX0_isSetOfThings_5, ← mx_cm1]; rfl
theorem vX0_isSetOfThings_6 : mStepO h k cX0_isSetOfThings bl Q Y (6, lv, st, σ) = (mBin Y 7 lv st σ (fun x y => x ^^^ y)) := mStep_d dX0_isSetOfThings_6
theorem vX0_isSetOfThings_7 : mStepO h k cX0_isSetOfThings bl Q Y (7, lv, st, σ) = (mBin Y 8 lv st σ (fun x y => x &&& y)) := mStep_d dX0_isSetOfThings_7
theorem vX0_isSetOfThings_8 : mStepO h k cX0_isSetOfThings bl Q Y (8, lv, st, σ) = (mN1 Y 15 11 lv st σ) := (mStep_d dX0_isSetOfThings_8).trans (mIfN1_J jt_8_7 jp_8_7)
theorem vX0_isSetOfThings_11 : mStepO h k cX0_isSetOfThings bl Q Y (11, lv, st, σ) = (Y (12, lv, .int (1) :: st, σ)) := by rw [mStep_d dX0_isSetOfThings_11, ← mx_c1]; rfl
theorem vX0_isSetOfThings_12 : mStepO h k cX0_isSetOfThings bl Q Y (12, lv, st, σ) = (Y (16, lv, st, σ)) := (mStep_d dX0_isSetOfThings_12).trans (mJ_J jt_12_4 jp_12_4)
theorem vX0_isSetOfThings_15 : mStepO h k cX0_isSetOfThings bl Q Y (15, lv, st, σ) = (Y (16, lv, .int (0) :: st, σ)) := by rw [mStep_d dX0_isSetOfThings_15, ← mx_c0]; rfl
theorem vX0_isSetOfThings_16 : mStepO h k cX0_isSetOfThings bl Q Y (16, lv, st, σ) = (mRetI bl Q st σ) := mStep_d dX0_isSetOfThings_16
theorem vX0_isBasket_0 : mStepO h k cX0_isBasket bl Q Y (0, lv, st, σ) = (mLdI Y 1 lv st σ 1) := mStep_d dX0_isBasket_0
theorem vX0_isBasket_1 : mStepO h k cX0_isBasket bl Q Y (1, lv, st, σ) = (mJ1 Y 16 4 lv st σ (fun x => x < 0)) := (mStep_d dX0_isBasket_1).trans (mIf1_J jt_1_15 jp_1_15)
theorem vX0_isBasket_4 : mStepO h k cX0_isBasket bl Q Y (4, lv, st, σ) = (mLdI Y 5 lv st σ 1) := mStep_d dX0_isBasket_4
theorem vX0_isBasket_5 : mStepO h k cX0_isBasket bl Q Y (5, lv, st, σ) = (mLdA Y 6 lv st σ 0) := mStep_d dX0_isBasket_5
theorem vX0_isBasket_6 : mStepO h k cX0_isBasket bl Q Y (6, lv, st, σ) = (mGet h k Y 9 lv st σ 83) := mStep_d dX0_isBasket_6
theorem vX0_isBasket_9 : mStepO h k cX0_isBasket bl Q Y (9, lv, st, σ) = (mJ2 Y 16 12 lv st σ (fun x y => y ≤ x)) := (mStep_d dX0_isBasket_9).trans (mIf2_J jt_9_7 jp_9_7)
theorem vX0_isBasket_12 : mStepO h k cX0_isBasket bl Q Y (12, lv, st, σ) = (Y (13, lv, .int (1) :: st, σ)) := by rw [mStep_d dX0_isBasket_12, ← mx_c1]; rfl
theorem vX0_isBasket_13 : mStepO h k cX0_isBasket bl Q Y (13, lv, st, σ) = (Y (17, lv, st, σ)) := (mStep_d dX0_isBasket_13).trans (mJ_J jt_13_4 jp_13_4)
theorem vX0_isBasket_16 : mStepO h k cX0_isBasket bl Q Y (16, lv, st, σ) = (Y (17, lv, .int (0) :: st, σ)) := by rw [mStep_d dX0_isBasket_16, ← mx_c0]; rfl
theorem vX0_isBasket_17 : mStepO h k cX0_isBasket bl Q Y (17, lv, st, σ) = (mRetI bl Q st σ) := mStep_d dX0_isBasket_17
theorem vX0_canList_0 : mStepO h k cX0_canList bl Q Y (0, lv, st, σ) = (mLdI Y 1 lv st σ 1) := mStep_d dX0_canList_0
theorem vX0_canList_1 : mStepO h k cX0_canList bl Q Y (1, lv, st, σ) = (mCaS k Y 4 lv st σ 77) := mStep_d dX0_canList_1
theorem vX0_canList_4 : mStepO h k cX0_canList bl Q Y (4, lv, st, σ) = (mJ1 Y 21 7 lv st σ (fun x => x = 0)) := (mStep_d dX0_canList_4).trans (mIf1_J jt_4_17 jp_4_17)
theorem vX0_canList_7 : mStepO h k cX0_canList bl Q Y (7, lv, st, σ) = (mLdI Y 8 lv st σ 2) := mStep_d dX0_canList_7
theorem vX0_canList_8 : mStepO h k cX0_canList bl Q Y (8, lv, st, σ) = (Y (9, lv, .int (1) :: st, σ)) := by rw [mStep_d dX0_canList_8, ← mx_c1]; rfl
theorem vX0_canList_9 : mStepO h k cX0_canList bl Q Y (9, lv, st, σ) = (mJ2 Y 21 12 lv st σ (fun x y => x < y)) := (mStep_d dX0_canList_9).trans (mIf2_J jt_9_12 jp_9_12)
theorem vX0_canList_12 : mStepO h k cX0_canList bl Q Y (12, lv, st, σ) = (mLdI Y 13 lv st σ 2) := mStep_d dX0_canList_12
theorem vX0_canList_13 : mStepO h k cX0_canList bl Q Y (13, lv, st, σ) = (Y (14, lv, .int (5) :: st, σ)) := by rw [mStep_d dX0_canList_13, ← mx_c5]; rfl
theorem vX0_canList_14 : mStepO h k cX0_canList bl Q Y (14, lv, st, σ) = (mJ2 Y 21 17 lv st σ (fun x y => y < x)) := (mStep_d dX0_canList_14).trans (mIf2_J jt_14_7 jp_14_7)
theorem vX0_canList_17 : mStepO h k cX0_canList bl Q Y (17, lv, st, σ) = (Y (18, lv, .int (1) :: st, σ)) := by rw [mStep_d dX0_canList_17, ← mx_c1]; rfl
theorem vX0_canList_18 : mStepO h k cX0_canList bl Q Y (18, lv, st, σ) = (Y (22, lv, st, σ)) := (mStep_d dX0_canList_18).trans (mJ_J jt_18_4 jp_18_4)
theorem vX0_canList_21 : mStepO h k cX0_canList bl Q Y (21, lv, st, σ) = (Y (22, lv, .int (0) :: st, σ)) := by rw [mStep_d dX0_canList_21, ← mx_c0]; rfl
theorem vX0_canList_22 : mStepO h k cX0_canList bl Q Y (22, lv, st, σ) = (mRetI bl Q st σ) := mStep_d dX0_canList_22
theorem vX0_isPerson_0 : mStepO h k cX0_isPerson bl Q Y (0, lv, st, σ) = (mLdI Y 1 lv st σ 0) := mStep_d dX0_isPerson_0
theorem vX0_isPerson_1 : mStepO h k cX0_isPerson bl Q Y (1, lv, st, σ) = (mJ1 Y 14 4 lv st σ (fun x => x < 0)) := (mStep_d dX0_isPerson_1).trans (mIf1_J jt_1_13 jp_1_13)
theorem vX0_isPerson_4 : mStepO h k cX0_isPerson bl Q Y (4, lv, st, σ) = (mLdI Y 5 lv st σ 0) := mStep_d dX0_isPerson_4
theorem vX0_isPerson_5 : mStepO h k cX0_isPerson bl Q Y (5, lv, st, σ) = (Y (7, lv, .int (8) :: st, σ)) := by rw [mStep_d dX0_isPerson_5, ← mx_b8]; rfl
theorem vX0_isPerson_7 : mStepO h k cX0_isPerson bl Q Y (7, lv, st, σ) = (mJ2 Y 14 10 lv st σ (fun x y => y ≤ x)) := (mStep_d dX0_isPerson_7).trans (mIf2_J jt_7_7 jp_7_7)
theorem vX0_isPerson_10 : mStepO h k cX0_isPerson bl Q Y (10, lv, st, σ) = (Y (11, lv, .int (1) :: st, σ)) := by rw [mStep_d dX0_isPerson_10, ← mx_c1]; rfl
theorem vX0_isPerson_11 : mStepO h k cX0_isPerson bl Q Y (11, lv, st, σ) = (Y (15, lv, st, σ)) := (mStep_d dX0_isPerson_11).trans (mJ_J jt_11_4 jp_11_4)
theorem vX0_isPerson_14 : mStepO h k cX0_isPerson bl Q Y (14, lv, st, σ) = (Y (15, lv, .int (0) :: st, σ)) := by rw [mStep_d dX0_isPerson_14, ← mx_c0]; rfl
theorem vX0_isPerson_15 : mStepO h k cX0_isPerson bl Q Y (15, lv, st, σ) = (mRetI bl Q st σ) := mStep_d dX0_isPerson_15
theorem vX0_has_0 : mStepO h k cX0_has bl Q Y (0, lv, st, σ) = (mLdI Y 1 lv st σ 0) := mStep_d dX0_has_0
theorem vX0_has_1 : mStepO h k cX0_has bl Q Y (1, lv, st, σ) = (mLdI Y 2 lv st σ 1) := mStep_d dX0_has_1
theorem vX0_has_2 : mStepO h k cX0_has bl Q Y (2, lv, st, σ) = (mBin Y 3 lv st σ (fun x y => x >>> (y &&& 31))) := mStep_d dX0_has_2
theorem vX0_has_3 : mStepO h k cX0_has bl Q Y (3, lv, st, σ) = (Y (4, lv, .int (1) :: st, σ)) := by rw [mStep_d dX0_has_3, ← mx_c1]; rfl
theorem vX0_has_4 : mStepO h k cX0_has bl Q Y (4, lv, st, σ) = (mBin Y 5 lv st σ (fun x y => x &&& y)) := mStep_d dX0_has_4
theorem vX0_has_5 : mStepO h k cX0_has bl Q Y (5, lv, st, σ) = (Y (6, lv, .int (1) :: st, σ)) := by rw [mStep_d dX0_has_5, ← mx_c1]; rfl
theorem vX0_has_6 : mStepO h k cX0_has bl Q Y (6, lv, st, σ) = (mN2 Y 13 9 lv st σ) := (mStep_d dX0_has_6).trans (mIfN2_J jt_6_7 jp_6_7)
theorem vX0_has_9 : mStepO h k cX0_has bl Q Y (9, lv, st, σ) = (Y (10, lv, .int (1) :: st, σ)) := by rw [mStep_d dX0_has_9, ← mx_c1]; rfl
theorem vX0_has_10 : mStepO h k cX0_has bl Q Y (10, lv, st, σ) = (Y (14, lv, st, σ)) := (mStep_d dX0_has_10).trans (mJ_J jt_10_4 jp_10_4)
theorem vX0_has_13 : mStepO h k cX0_has bl Q Y (13, lv, st, σ) = (Y (14, lv, .int (0) :: st, σ)) := by rw [mStep_d dX0_has_13, ← mx_c0]; rfl
theorem vX0_has_14 : mStepO h k cX0_has bl Q Y (14, lv, st, σ) = (mRetI bl Q st σ) := mStep_d dX0_has_14
theorem vX0_allThings_0 : mStepO h k cX0_allThings bl Q Y (0, lv, st, σ) = (Y (1, lv, .int (1) :: st, σ)) := by rw [mStep_d dX0_allThings_0, ← mx_c1]; rfl
theorem vX0_allThings_1 : mStepO h k cX0_allThings bl Q Y (1, lv, st, σ) = (mLdA Y 2 lv st σ 0) := mStep_d dX0_allThings_1
theorem vX0_allThings_2 : mStepO h k cX0_allThings bl Q Y (2, lv, st, σ) = (mGet h k Y 5 lv st σ 53) := mStep_d dX0_allThings_2
theorem vX0_allThings_5 : mStepO h k cX0_allThings bl Q Y (5, lv, st, σ) = (mBin Y 6 lv st σ (fun x y => x <<< (y &&& 31))) := mStep_d dX0_allThings_5
theorem vX0_allThings_6 : mStepO h k cX0_allThings bl Q Y (6, lv, st, σ) = (Y (7, lv, .int (1) :: st, σ)) := by rw [mStep_d dX0_allThings_6, ← mx_c1]; rfl
theorem vX0_allThings_7 : mStepO h k cX0_allThings bl Q Y (7, lv, st, σ) = (mBin Y 8 lv st σ (fun x y => x - y)) := mStep_d dX0_allThings_7
theorem vX0_allThings_8 : mStepO h k cX0_allThings bl Q Y (8, lv, st, σ) = (mRetI bl Q st σ) := mStep_d dX0_allThings_8
theorem vX0_newThings_0 : mStepO h k cX0_newThings bl Q Y (0, lv, st, σ) = (Y (1, lv, .int (0) :: st, σ)) := by rw [mStep_d dX0_newThings_0, ← mx_c0]; rfl
theorem vX0_newThings_1 : mStepO h k cX0_newThings bl Q Y (1, lv, st, σ) = (mStI Y 2 lv st σ 1) := mStep_d dX0_newThings_1
theorem vX0_newThings_2 : mStepO h k cX0_newThings bl Q Y (2, lv, st, σ) = (Y (3, lv, .int (0) :: st, σ)) := by rw [mStep_d dX0_newThings_2, ← mx_c0]; rfl
theorem vX0_newThings_3 : mStepO h k cX0_newThings bl Q Y (3, lv, st, σ) = (mStI Y 4 lv st σ 2) := mStep_d dX0_newThings_3
theorem vX0_newThings_4 : mStepO h k cX0_newThings bl Q Y (4, lv, st, σ) = (mLdI Y 5 lv st σ 2) := mStep_d dX0_newThings_4
theorem vX0_newThings_5 : mStepO h k cX0_newThings bl Q Y (5, lv, st, σ) = (mLdA Y 6 lv st σ 0) := mStep_d dX0_newThings_5
theorem vX0_newThings_6 : mStepO h k cX0_newThings bl Q Y (6, lv, st, σ) = (mGet h k Y 9 lv st σ 53) := mStep_d dX0_newThings_6
theorem vX0_newThings_9 : mStepO h k cX0_newThings bl Q Y (9, lv, st, σ) = (mJ2 Y 40 12 lv st σ (fun x y => y ≤ x)) := (mStep_d dX0_newThings_9).trans (mIf2_J jt_9_31 jp_9_31)
theorem vX0_newThings_12 : mStepO h k cX0_newThings bl Q Y (12, lv, st, σ) = (mLdA Y 13 lv st σ 0) := mStep_d dX0_newThings_12
theorem vX0_newThings_13 : mStepO h k cX0_newThings bl Q Y (13, lv, st, σ) = (mGet h k Y 16 lv st σ 57) := mStep_d dX0_newThings_13
theorem vX0_newThings_16 : mStepO h k cX0_newThings bl Q Y (16, lv, st, σ) = (mLdA Y 17 lv st σ 0) := mStep_d dX0_newThings_16
theorem vX0_newThings_17 : mStepO h k cX0_newThings bl Q Y (17, lv, st, σ) = (mGet h k Y 20 lv st σ 21) := mStep_d dX0_newThings_17
theorem vX0_newThings_20 : mStepO h k cX0_newThings bl Q Y (20, lv, st, σ) = (mLdI Y 21 lv st σ 2) := mStep_d dX0_newThings_20
theorem vX0_newThings_21 : mStepO h k cX0_newThings bl Q Y (21, lv, st, σ) = (mLdE h Y 22 lv st σ) := mStep_d dX0_newThings_21
theorem vX0_newThings_22 : mStepO h k cX0_newThings bl Q Y (22, lv, st, σ) = (mBin Y 23 lv st σ (fun x y => x - y)) := mStep_d dX0_newThings_22
theorem vX0_newThings_23 : mStepO h k cX0_newThings bl Q Y (23, lv, st, σ) = (Y (25, lv, .int (10) :: st, σ)) := by rw [mStep_d dX0_newThings_23, ← mx_b10]; rfl
theorem vX0_newThings_25 : mStepO h k cX0_newThings bl Q Y (25, lv, st, σ) = (mJ2 Y 34 28 lv st σ (fun x y => y ≤ x)) := (mStep_d dX0_newThings_25).trans (mIf2_J jt_25_9 jp_25_9)
theorem vX0_newThings_28 : mStepO h k cX0_newThings bl Q Y (28, lv, st, σ) = (mLdI Y 29 lv st σ 1) := mStep_d dX0_newThings_28
theorem vX0_newThings_29 : mStepO h k cX0_newThings bl Q Y (29, lv, st, σ) = (Y (30, lv, .int (1) :: st, σ)) := by rw [mStep_d dX0_newThings_29, ← mx_c1]; rfl
theorem vX0_newThings_30 : mStepO h k cX0_newThings bl Q Y (30, lv, st, σ) = (mLdI Y 31 lv st σ 2) := mStep_d dX0_newThings_30
theorem vX0_newThings_31 : mStepO h k cX0_newThings bl Q Y (31, lv, st, σ) = (mBin Y 32 lv st σ (fun x y => x <<< (y &&& 31))) := mStep_d dX0_newThings_31
theorem vX0_newThings_32 : mStepO h k cX0_newThings bl Q Y (32, lv, st, σ) = (mBin Y 33 lv st σ (fun x y => x ||| y)) := mStep_d dX0_newThings_32
theorem vX0_newThings_33 : mStepO h k cX0_newThings bl Q Y (33, lv, st, σ) = (mStI Y 34 lv st σ 1) := mStep_d dX0_newThings_33
theorem vX0_newThings_34 : mStepO h k cX0_newThings bl Q Y (34, lv, st, σ) = (mInc Y 37 lv st σ 2 (1)) := by rw [mStep_d dX0_newThings_34, ← mx_c1]; rfl
theorem vX0_newThings_37 : mStepO h k cX0_newThings bl Q Y (37, lv, st, σ) = (Y (4, lv, st, σ)) := (mStep_d dX0_newThings_37).trans (mJ_J jt_37_m33 jp_37_m33)
theorem vX0_newThings_40 : mStepO h k cX0_newThings bl Q Y (40, lv, st, σ) = (mLdI Y 41 lv st σ 1) := mStep_d dX0_newThings_40
theorem vX0_newThings_41 : mStepO h k cX0_newThings bl Q Y (41, lv, st, σ) = (mRetI bl Q st σ) := mStep_d dX0_newThings_41
theorem vX0_removeBasket_0 : mStepO h k cX0_removeBasket bl Q Y (0, lv, st, σ) = (mLdA Y 1 lv st σ 0) := mStep_d dX0_removeBasket_0
theorem vX0_removeBasket_1 : mStepO h k cX0_removeBasket bl Q Y (1, lv, st, σ) = (mDup Y 2 lv st σ) := mStep_d dX0_removeBasket_1
theorem vX0_removeBasket_2 : mStepO h k cX0_removeBasket bl Q Y (2, lv, st, σ) = (mGet h k Y 5 lv st σ 83) := mStep_d dX0_removeBasket_2
theorem vX0_removeBasket_5 : mStepO h k cX0_removeBasket bl Q Y (5, lv, st, σ) = (Y (6, lv, .int (1) :: st, σ)) := by rw [mStep_d dX0_removeBasket_5, ← mx_c1]; rfl
theorem vX0_removeBasket_6 : mStepO h k cX0_removeBasket bl Q Y (6, lv, st, σ) = (mBin Y 7 lv st σ (fun x y => x - y)) := mStep_d dX0_removeBasket_6
theorem vX0_removeBasket_7 : mStepO h k cX0_removeBasket bl Q Y (7, lv, st, σ) = (mPut h k Y 10 lv st σ 83) := mStep_d dX0_removeBasket_7
theorem vX0_removeBasket_10 : mStepO h k cX0_removeBasket bl Q Y (10, lv, st, σ) = (mLdI Y 11 lv st σ 1) := mStep_d dX0_removeBasket_10
theorem vX0_removeBasket_11 : mStepO h k cX0_removeBasket bl Q Y (11, lv, st, σ) = (mStI Y 12 lv st σ 2) := mStep_d dX0_removeBasket_11
theorem vX0_removeBasket_12 : mStepO h k cX0_removeBasket bl Q Y (12, lv, st, σ) = (mLdI Y 13 lv st σ 2) := mStep_d dX0_removeBasket_12
theorem vX0_removeBasket_13 : mStepO h k cX0_removeBasket bl Q Y (13, lv, st, σ) = (mLdA Y 14 lv st σ 0) := mStep_d dX0_removeBasket_13
theorem vX0_removeBasket_14 : mStepO h k cX0_removeBasket bl Q Y (14, lv, st, σ) = (mGet h k Y 17 lv st σ 83) := mStep_d dX0_removeBasket_14
theorem vX0_removeBasket_17 : mStepO h k cX0_removeBasket bl Q Y (17, lv, st, σ) = (mJ2 Y 68 20 lv st σ (fun x y => y ≤ x)) := (mStep_d dX0_removeBasket_17).trans (mIf2_J jt_17_51 jp_17_51)
theorem vX0_removeBasket_20 : mStepO h k cX0_removeBasket bl Q Y (20, lv, st, σ) = (mLdA Y 21 lv st σ 0) := mStep_d dX0_removeBasket_20
theorem vX0_removeBasket_21 : mStepO h k cX0_removeBasket bl Q Y (21, lv, st, σ) = (mGet h k Y 24 lv st σ 30) := mStep_d dX0_removeBasket_21
theorem vX0_removeBasket_24 : mStepO h k cX0_removeBasket bl Q Y (24, lv, st, σ) = (mLdI Y 25 lv st σ 2) := mStep_d dX0_removeBasket_24
theorem vX0_removeBasket_25 : mStepO h k cX0_removeBasket bl Q Y (25, lv, st, σ) = (mLdA Y 26 lv st σ 0) := mStep_d dX0_removeBasket_25
theorem vX0_removeBasket_26 : mStepO h k cX0_removeBasket bl Q Y (26, lv, st, σ) = (mGet h k Y 29 lv st σ 30) := mStep_d dX0_removeBasket_26
theorem vX0_removeBasket_29 : mStepO h k cX0_removeBasket bl Q Y (29, lv, st, σ) = (mLdI Y 30 lv st σ 2) := mStep_d dX0_removeBasket_29
theorem vX0_removeBasket_30 : mStepO h k cX0_removeBasket bl Q Y (30, lv, st, σ) = (Y (31, lv, .int (1) :: st, σ)) := by rw [mStep_d dX0_removeBasket_30, ← mx_c1]; rfl
theorem vX0_removeBasket_31 : mStepO h k cX0_removeBasket bl Q Y (31, lv, st, σ) = (mBin Y 32 lv st σ (fun x y => x + y)) := mStep_d dX0_removeBasket_31
theorem vX0_removeBasket_32 : mStepO h k cX0_removeBasket bl Q Y (32, lv, st, σ) = (mLdE h Y 33 lv st σ) := mStep_d dX0_removeBasket_32
theorem vX0_removeBasket_33 : mStepO h k cX0_removeBasket bl Q Y (33, lv, st, σ) = (mStE h Y 34 lv st σ) := mStep_d dX0_removeBasket_33
theorem vX0_removeBasket_34 : mStepO h k cX0_removeBasket bl Q Y (34, lv, st, σ) = (mLdA Y 35 lv st σ 0) := mStep_d dX0_removeBasket_34
theorem vX0_removeBasket_35 : mStepO h k cX0_removeBasket bl Q Y (35, lv, st, σ) = (mGet h k Y 38 lv st σ 33) := mStep_d dX0_removeBasket_35
theorem vX0_removeBasket_38 : mStepO h k cX0_removeBasket bl Q Y (38, lv, st, σ) = (mLdI Y 39 lv st σ 2) := mStep_d dX0_removeBasket_38
theorem vX0_removeBasket_39 : mStepO h k cX0_removeBasket bl Q Y (39, lv, st, σ) = (mLdA Y 40 lv st σ 0) := mStep_d dX0_removeBasket_39
theorem vX0_removeBasket_40 : mStepO h k cX0_removeBasket bl Q Y (40, lv, st, σ) = (mGet h k Y 43 lv st σ 33) := mStep_d dX0_removeBasket_40
theorem vX0_removeBasket_43 : mStepO h k cX0_removeBasket bl Q Y (43, lv, st, σ) = (mLdI Y 44 lv st σ 2) := mStep_d dX0_removeBasket_43
theorem vX0_removeBasket_44 : mStepO h k cX0_removeBasket bl Q Y (44, lv, st, σ) = (Y (45, lv, .int (1) :: st, σ)) := by rw [mStep_d dX0_removeBasket_44, ← mx_c1]; rfl
theorem vX0_removeBasket_45 : mStepO h k cX0_removeBasket bl Q Y (45, lv, st, σ) = (mBin Y 46 lv st σ (fun x y => x + y)) := mStep_d dX0_removeBasket_45
theorem vX0_removeBasket_46 : mStepO h k cX0_removeBasket bl Q Y (46, lv, st, σ) = (mLdE h Y 47 lv st σ) := mStep_d dX0_removeBasket_46
theorem vX0_removeBasket_47 : mStepO h k cX0_removeBasket bl Q Y (47, lv, st, σ) = (mStE h Y 48 lv st σ) := mStep_d dX0_removeBasket_47
theorem vX0_removeBasket_48 : mStepO h k cX0_removeBasket bl Q Y (48, lv, st, σ) = (mLdA Y 49 lv st σ 0) := mStep_d dX0_removeBasket_48
theorem vX0_removeBasket_49 : mStepO h k cX0_removeBasket bl Q Y (49, lv, st, σ) = (mGet h k Y 52 lv st σ 36) := mStep_d dX0_removeBasket_49
theorem vX0_removeBasket_52 : mStepO h k cX0_removeBasket bl Q Y (52, lv, st, σ) = (mLdI Y 53 lv st σ 2) := mStep_d dX0_removeBasket_52
theorem vX0_removeBasket_53 : mStepO h k cX0_removeBasket bl Q Y (53, lv, st, σ) = (mLdA Y 54 lv st σ 0) := mStep_d dX0_removeBasket_53
theorem vX0_removeBasket_54 : mStepO h k cX0_removeBasket bl Q Y (54, lv, st, σ) = (mGet h k Y 57 lv st σ 36) := mStep_d dX0_removeBasket_54
theorem vX0_removeBasket_57 : mStepO h k cX0_removeBasket bl Q Y (57, lv, st, σ) = (mLdI Y 58 lv st σ 2) := mStep_d dX0_removeBasket_57
theorem vX0_removeBasket_58 : mStepO h k cX0_removeBasket bl Q Y (58, lv, st, σ) = (Y (59, lv, .int (1) :: st, σ)) := by rw [mStep_d dX0_removeBasket_58, ← mx_c1]; rfl
theorem vX0_removeBasket_59 : mStepO h k cX0_removeBasket bl Q Y (59, lv, st, σ) = (mBin Y 60 lv st σ (fun x y => x + y)) := mStep_d dX0_removeBasket_59
theorem vX0_removeBasket_60 : mStepO h k cX0_removeBasket bl Q Y (60, lv, st, σ) = (mLdE h Y 61 lv st σ) := mStep_d dX0_removeBasket_60
theorem vX0_removeBasket_61 : mStepO h k cX0_removeBasket bl Q Y (61, lv, st, σ) = (mStE h Y 62 lv st σ) := mStep_d dX0_removeBasket_61
theorem vX0_removeBasket_62 : mStepO h k cX0_removeBasket bl Q Y (62, lv, st, σ) = (mInc Y 65 lv st σ 2 (1)) := by rw [mStep_d dX0_removeBasket_62, ← mx_c1]; rfl
theorem vX0_removeBasket_65 : mStepO h k cX0_removeBasket bl Q Y (65, lv, st, σ) = (Y (12, lv, st, σ)) := (mStep_d dX0_removeBasket_65).trans (mJ_J jt_65_m53 jp_65_m53)
theorem vX0_removeBasket_68 : mStepO h k cX0_removeBasket bl Q Y (68, lv, st, σ) = (mRetV bl Q st σ) := mStep_d dX0_removeBasket_68
theorem vX0_removeOldBaskets_0 : mStepO h k cX0_removeOldBaskets bl Q Y (0, lv, st, σ) = (mLdA Y 1 lv st σ 0) := mStep_d dX0_removeOldBaskets_0
theorem vX0_removeOldBaskets_1 : mStepO h k cX0_removeOldBaskets bl Q Y (1, lv, st, σ) = (mGet h k Y 4 lv st σ 83) := mStep_d dX0_removeOldBaskets_1
theorem vX0_removeOldBaskets_4 : mStepO h k cX0_removeOldBaskets bl Q Y (4, lv, st, σ) = (Y (5, lv, .int (1) :: st, σ)) := by rw [mStep_d dX0_removeOldBaskets_4, ← mx_c1]; rfl
theorem vX0_removeOldBaskets_5 : mStepO h k cX0_removeOldBaskets bl Q Y (5, lv, st, σ) = (mBin Y 6 lv st σ (fun x y => x - y)) := mStep_d dX0_removeOldBaskets_5
theorem vX0_removeOldBaskets_6 : mStepO h k cX0_removeOldBaskets bl Q Y (6, lv, st, σ) = (mStI Y 7 lv st σ 1) := mStep_d dX0_removeOldBaskets_6
theorem vX0_removeOldBaskets_7 : mStepO h k cX0_removeOldBaskets bl Q Y (7, lv, st, σ) = (mLdI Y 8 lv st σ 1) := mStep_d dX0_removeOldBaskets_7
theorem vX0_removeOldBaskets_8 : mStepO h k cX0_removeOldBaskets bl Q Y (8, lv, st, σ) = (mJ1 Y 38 11 lv st σ (fun x => x < 0)) := (mStep_d dX0_removeOldBaskets_8).trans (mIf1_J jt_8_30 jp_8_30)
theorem vX0_removeOldBaskets_11 : mStepO h k cX0_removeOldBaskets bl Q Y (11, lv, st, σ) = (mLdA Y 12 lv st σ 0) := mStep_d dX0_removeOldBaskets_11
theorem vX0_removeOldBaskets_12 : mStepO h k cX0_removeOldBaskets bl Q Y (12, lv, st, σ) = (mGet h k Y 15 lv st σ 57) := mStep_d dX0_removeOldBaskets_12
theorem vX0_removeOldBaskets_15 : mStepO h k cX0_removeOldBaskets bl Q Y (15, lv, st, σ) = (mLdA Y 16 lv st σ 0) := mStep_d dX0_removeOldBaskets_15
theorem vX0_removeOldBaskets_16 : mStepO h k cX0_removeOldBaskets bl Q Y (16, lv, st, σ) = (mGet h k Y 19 lv st σ 33) := mStep_d dX0_removeOldBaskets_16
theorem vX0_removeOldBaskets_19 : mStepO h k cX0_removeOldBaskets bl Q Y (19, lv, st, σ) = (mLdI Y 20 lv st σ 1) := mStep_d dX0_removeOldBaskets_19
theorem vX0_removeOldBaskets_20 : mStepO h k cX0_removeOldBaskets bl Q Y (20, lv, st, σ) = (mLdE h Y 21 lv st σ) := mStep_d dX0_removeOldBaskets_20
theorem vX0_removeOldBaskets_21 : mStepO h k cX0_removeOldBaskets bl Q Y (21, lv, st, σ) = (mBin Y 22 lv st σ (fun x y => x - y)) := mStep_d dX0_removeOldBaskets_21
theorem vX0_removeOldBaskets_22 : mStepO h k cX0_removeOldBaskets bl Q Y (22, lv, st, σ) = (Y (24, lv, .int (28) :: st, σ)) := by rw [mStep_d dX0_removeOldBaskets_22, ← mx_b28]; rfl
theorem vX0_removeOldBaskets_24 : mStepO h k cX0_removeOldBaskets bl Q Y (24, lv, st, σ) = (mJ2 Y 32 27 lv st σ (fun x y => x < y)) := (mStep_d dX0_removeOldBaskets_24).trans (mIf2_J jt_24_8 jp_24_8)
theorem vX0_removeOldBaskets_27 : mStepO h k cX0_removeOldBaskets bl Q Y (27, lv, st, σ) = (mLdA Y 28 lv st σ 0) := mStep_d dX0_removeOldBaskets_27
theorem vX0_removeOldBaskets_28 : mStepO h k cX0_removeOldBaskets bl Q Y (28, lv, st, σ) = (mLdI Y 29 lv st σ 1) := mStep_d dX0_removeOldBaskets_28
theorem vX0_removeOldBaskets_29 : mStepO h k cX0_removeOldBaskets bl Q Y (29, lv, st, σ) = (mCaV k Y 32 lv st σ 93) := mStep_d dX0_removeOldBaskets_29
theorem vX0_removeOldBaskets_32 : mStepO h k cX0_removeOldBaskets bl Q Y (32, lv, st, σ) = (mInc Y 35 lv st σ 1 (-1)) := by rw [mStep_d dX0_removeOldBaskets_32, ← mx_cm1]; rfl
theorem vX0_removeOldBaskets_35 : mStepO h k cX0_removeOldBaskets bl Q Y (35, lv, st, σ) = (Y (7, lv, st, σ)) := (mStep_d dX0_removeOldBaskets_35).trans (mJ_J jt_35_m28 jp_35_m28)
theorem vX0_removeOldBaskets_38 : mStepO h k cX0_removeOldBaskets bl Q Y (38, lv, st, σ) = (mRetV bl Q st σ) := mStep_d dX0_removeOldBaskets_38
theorem vX0_basketsWith_0 : mStepO h k cX0_basketsWith bl Q Y (0, lv, st, σ) = (Y (1, lv, .int (1) :: st, σ)) := by rw [mStep_d dX0_basketsWith_0, ← mx_c1]; rfl
theorem vX0_basketsWith_1 : mStepO h k cX0_basketsWith bl Q Y (1, lv, st, σ) = (mLdI Y 2 lv st σ 1) := mStep_d dX0_basketsWith_1
theorem vX0_basketsWith_2 : mStepO h k cX0_basketsWith bl Q Y (2, lv, st, σ) = (mBin Y 3 lv st σ (fun x y => x <<< (y &&& 31))) := mStep_d dX0_basketsWith_2
theorem vX0_basketsWith_3 : mStepO h k cX0_basketsWith bl Q Y (3, lv, st, σ) = (Y (4, lv, .int (1) :: st, σ)) := by rw [mStep_d dX0_basketsWith_3, ← mx_c1]; rfl
theorem vX0_basketsWith_4 : mStepO h k cX0_basketsWith bl Q Y (4, lv, st, σ) = (mLdI Y 5 lv st σ 2) := mStep_d dX0_basketsWith_4
theorem vX0_basketsWith_5 : mStepO h k cX0_basketsWith bl Q Y (5, lv, st, σ) = (mBin Y 6 lv st σ (fun x y => x <<< (y &&& 31))) := mStep_d dX0_basketsWith_5
theorem vX0_basketsWith_6 : mStepO h k cX0_basketsWith bl Q Y (6, lv, st, σ) = (mBin Y 7 lv st σ (fun x y => x ||| y)) := mStep_d dX0_basketsWith_6
theorem vX0_basketsWith_7 : mStepO h k cX0_basketsWith bl Q Y (7, lv, st, σ) = (mStI Y 8 lv st σ 3) := mStep_d dX0_basketsWith_7
theorem vX0_basketsWith_8 : mStepO h k cX0_basketsWith bl Q Y (8, lv, st, σ) = (Y (9, lv, .int (0) :: st, σ)) := by rw [mStep_d dX0_basketsWith_8, ← mx_c0]; rfl
theorem vX0_basketsWith_9 : mStepO h k cX0_basketsWith bl Q Y (9, lv, st, σ) = (mStI Y 11 lv st σ 4) := mStep_d dX0_basketsWith_9
theorem vX0_basketsWith_11 : mStepO h k cX0_basketsWith bl Q Y (11, lv, st, σ) = (Y (12, lv, .int (0) :: st, σ)) := by rw [mStep_d dX0_basketsWith_11, ← mx_c0]; rfl
theorem vX0_basketsWith_12 : mStepO h k cX0_basketsWith bl Q Y (12, lv, st, σ) = (mStI Y 14 lv st σ 5) := mStep_d dX0_basketsWith_12
theorem vX0_basketsWith_14 : mStepO h k cX0_basketsWith bl Q Y (14, lv, st, σ) = (mLdI Y 16 lv st σ 5) := mStep_d dX0_basketsWith_14
theorem vX0_basketsWith_16 : mStepO h k cX0_basketsWith bl Q Y (16, lv, st, σ) = (mLdA Y 17 lv st σ 0) := mStep_d dX0_basketsWith_16
theorem vX0_basketsWith_17 : mStepO h k cX0_basketsWith bl Q Y (17, lv, st, σ) = (mGet h k Y 20 lv st σ 83) := mStep_d dX0_basketsWith_17
theorem vX0_basketsWith_20 : mStepO h k cX0_basketsWith bl Q Y (20, lv, st, σ) = (mJ2 Y 45 23 lv st σ (fun x y => y ≤ x)) := (mStep_d dX0_basketsWith_20).trans (mIf2_J jt_20_25 jp_20_25)
theorem vX0_basketsWith_23 : mStepO h k cX0_basketsWith bl Q Y (23, lv, st, σ) = (mLdA Y 24 lv st σ 0) := mStep_d dX0_basketsWith_23
theorem vX0_basketsWith_24 : mStepO h k cX0_basketsWith bl Q Y (24, lv, st, σ) = (mGet h k Y 27 lv st σ 36) := mStep_d dX0_basketsWith_24
theorem vX0_basketsWith_27 : mStepO h k cX0_basketsWith bl Q Y (27, lv, st, σ) = (mLdI Y 29 lv st σ 5) := mStep_d dX0_basketsWith_27
theorem vX0_basketsWith_29 : mStepO h k cX0_basketsWith bl Q Y (29, lv, st, σ) = (mLdE h Y 30 lv st σ) := mStep_d dX0_basketsWith_29
theorem vX0_basketsWith_30 : mStepO h k cX0_basketsWith bl Q Y (30, lv, st, σ) = (mLdI Y 31 lv st σ 3) := mStep_d dX0_basketsWith_30
theorem vX0_basketsWith_31 : mStepO h k cX0_basketsWith bl Q Y (31, lv, st, σ) = (mBin Y 32 lv st σ (fun x y => x &&& y)) := mStep_d dX0_basketsWith_31
theorem vX0_basketsWith_32 : mStepO h k cX0_basketsWith bl Q Y (32, lv, st, σ) = (mLdI Y 33 lv st σ 3) := mStep_d dX0_basketsWith_32
theorem vX0_basketsWith_33 : mStepO h k cX0_basketsWith bl Q Y (33, lv, st, σ) = (mN2 Y 39 36 lv st σ) := (mStep_d dX0_basketsWith_33).trans (mIfN2_J jt_33_6 jp_33_6)
theorem vX0_basketsWith_36 : mStepO h k cX0_basketsWith bl Q Y (36, lv, st, σ) = (mInc Y 39 lv st σ 4 (1)) := by rw [mStep_d dX0_basketsWith_36, ← mx_c1]; rfl
theorem vX0_basketsWith_39 : mStepO h k cX0_basketsWith bl Q Y (39, lv, st, σ) = (mInc Y 42 lv st σ 5 (1)) := by rw [mStep_d dX0_basketsWith_39, ← mx_c1]; rfl
theorem vX0_basketsWith_42 : mStepO h k cX0_basketsWith bl Q Y (42, lv, st, σ) = (Y (14, lv, st, σ)) := (mStep_d dX0_basketsWith_42).trans (mJ_J jt_42_m28 jp_42_m28)
theorem vX0_basketsWith_45 : mStepO h k cX0_basketsWith bl Q Y (45, lv, st, σ) = (mLdI Y 47 lv st σ 4) := mStep_d dX0_basketsWith_45
theorem vX0_basketsWith_47 : mStepO h k cX0_basketsWith bl Q Y (47, lv, st, σ) = (mRetI bl Q st σ) := mStep_d dX0_basketsWith_47
theorem vX0_peopleWith_0 : mStepO h k cX0_peopleWith bl Q Y (0, lv, st, σ) = (Y (1, lv, .int (1) :: st, σ)) := by rw [mStep_d dX0_peopleWith_0, ← mx_c1]; rfl
theorem vX0_peopleWith_1 : mStepO h k cX0_peopleWith bl Q Y (1, lv, st, σ) = (mLdI Y 2 lv st σ 1) := mStep_d dX0_peopleWith_1
theorem vX0_peopleWith_2 : mStepO h k cX0_peopleWith bl Q Y (2, lv, st, σ) = (mBin Y 3 lv st σ (fun x y => x <<< (y &&& 31))) := mStep_d dX0_peopleWith_2
theorem vX0_peopleWith_3 : mStepO h k cX0_peopleWith bl Q Y (3, lv, st, σ) = (Y (4, lv, .int (1) :: st, σ)) := by rw [mStep_d dX0_peopleWith_3, ← mx_c1]; rfl
theorem vX0_peopleWith_4 : mStepO h k cX0_peopleWith bl Q Y (4, lv, st, σ) = (mLdI Y 5 lv st σ 2) := mStep_d dX0_peopleWith_4
theorem vX0_peopleWith_5 : mStepO h k cX0_peopleWith bl Q Y (5, lv, st, σ) = (mBin Y 6 lv st σ (fun x y => x <<< (y &&& 31))) := mStep_d dX0_peopleWith_5
theorem vX0_peopleWith_6 : mStepO h k cX0_peopleWith bl Q Y (6, lv, st, σ) = (mBin Y 7 lv st σ (fun x y => x ||| y)) := mStep_d dX0_peopleWith_6
theorem vX0_peopleWith_7 : mStepO h k cX0_peopleWith bl Q Y (7, lv, st, σ) = (mStI Y 8 lv st σ 3) := mStep_d dX0_peopleWith_7
theorem vX0_peopleWith_8 : mStepO h k cX0_peopleWith bl Q Y (8, lv, st, σ) = (Y (9, lv, .int (0) :: st, σ)) := by rw [mStep_d dX0_peopleWith_8, ← mx_c0]; rfl
theorem vX0_peopleWith_9 : mStepO h k cX0_peopleWith bl Q Y (9, lv, st, σ) = (mStI Y 11 lv st σ 4) := mStep_d dX0_peopleWith_9
theorem vX0_peopleWith_11 : mStepO h k cX0_peopleWith bl Q Y (11, lv, st, σ) = (Y (12, lv, .int (0) :: st, σ)) := by rw [mStep_d dX0_peopleWith_11, ← mx_c0]; rfl
theorem vX0_peopleWith_12 : mStepO h k cX0_peopleWith bl Q Y (12, lv, st, σ) = (mStI Y 14 lv st σ 5) := mStep_d dX0_peopleWith_12
theorem vX0_peopleWith_14 : mStepO h k cX0_peopleWith bl Q Y (14, lv, st, σ) = (mLdI Y 16 lv st σ 5) := mStep_d dX0_peopleWith_14
theorem vX0_peopleWith_16 : mStepO h k cX0_peopleWith bl Q Y (16, lv, st, σ) = (mLdA Y 17 lv st σ 0) := mStep_d dX0_peopleWith_16
theorem vX0_peopleWith_17 : mStepO h k cX0_peopleWith bl Q Y (17, lv, st, σ) = (mGet h k Y 20 lv st σ 83) := mStep_d dX0_peopleWith_17
theorem vX0_peopleWith_20 : mStepO h k cX0_peopleWith bl Q Y (20, lv, st, σ) = (mJ2 Y 56 23 lv st σ (fun x y => y ≤ x)) := (mStep_d dX0_peopleWith_20).trans (mIf2_J jt_20_36 jp_20_36)
theorem vX0_peopleWith_23 : mStepO h k cX0_peopleWith bl Q Y (23, lv, st, σ) = (mLdA Y 24 lv st σ 0) := mStep_d dX0_peopleWith_23
theorem vX0_peopleWith_24 : mStepO h k cX0_peopleWith bl Q Y (24, lv, st, σ) = (mGet h k Y 27 lv st σ 36) := mStep_d dX0_peopleWith_24
theorem vX0_peopleWith_27 : mStepO h k cX0_peopleWith bl Q Y (27, lv, st, σ) = (mLdI Y 29 lv st σ 5) := mStep_d dX0_peopleWith_27
theorem vX0_peopleWith_29 : mStepO h k cX0_peopleWith bl Q Y (29, lv, st, σ) = (mLdE h Y 30 lv st σ) := mStep_d dX0_peopleWith_29
theorem vX0_peopleWith_30 : mStepO h k cX0_peopleWith bl Q Y (30, lv, st, σ) = (mLdI Y 31 lv st σ 3) := mStep_d dX0_peopleWith_30
theorem vX0_peopleWith_31 : mStepO h k cX0_peopleWith bl Q Y (31, lv, st, σ) = (mBin Y 32 lv st σ (fun x y => x &&& y)) := mStep_d dX0_peopleWith_31
theorem vX0_peopleWith_32 : mStepO h k cX0_peopleWith bl Q Y (32, lv, st, σ) = (mLdI Y 33 lv st σ 3) := mStep_d dX0_peopleWith_32
theorem vX0_peopleWith_33 : mStepO h k cX0_peopleWith bl Q Y (33, lv, st, σ) = (mN2 Y 50 36 lv st σ) := (mStep_d dX0_peopleWith_33).trans (mIfN2_J jt_33_17 jp_33_17)
theorem vX0_peopleWith_36 : mStepO h k cX0_peopleWith bl Q Y (36, lv, st, σ) = (mLdI Y 38 lv st σ 4) := mStep_d dX0_peopleWith_36
theorem vX0_peopleWith_38 : mStepO h k cX0_peopleWith bl Q Y (38, lv, st, σ) = (Y (39, lv, .int (1) :: st, σ)) := by rw [mStep_d dX0_peopleWith_38, ← mx_c1]; rfl
theorem vX0_peopleWith_39 : mStepO h k cX0_peopleWith bl Q Y (39, lv, st, σ) = (mLdA Y 40 lv st σ 0) := mStep_d dX0_peopleWith_39
theorem vX0_peopleWith_40 : mStepO h k cX0_peopleWith bl Q Y (40, lv, st, σ) = (mGet h k Y 43 lv st σ 30) := mStep_d dX0_peopleWith_40
theorem vX0_peopleWith_43 : mStepO h k cX0_peopleWith bl Q Y (43, lv, st, σ) = (mLdI Y 45 lv st σ 5) := mStep_d dX0_peopleWith_43
theorem vX0_peopleWith_45 : mStepO h k cX0_peopleWith bl Q Y (45, lv, st, σ) = (mLdE h Y 46 lv st σ) := mStep_d dX0_peopleWith_45
theorem vX0_peopleWith_46 : mStepO h k cX0_peopleWith bl Q Y (46, lv, st, σ) = (mBin Y 47 lv st σ (fun x y => x <<< (y &&& 31))) := mStep_d dX0_peopleWith_46
theorem vX0_peopleWith_47 : mStepO h k cX0_peopleWith bl Q Y (47, lv, st, σ) = (mBin Y 48 lv st σ (fun x y => x ||| y)) := mStep_d dX0_peopleWith_47
theorem vX0_peopleWith_48 : mStepO h k cX0_peopleWith bl Q Y (48, lv, st, σ) = (mStI Y 50 lv st σ 4) := mStep_d dX0_peopleWith_48
theorem vX0_peopleWith_50 : mStepO h k cX0_peopleWith bl Q Y (50, lv, st, σ) = (mInc Y 53 lv st σ 5 (1)) := by rw [mStep_d dX0_peopleWith_50, ← mx_c1]; rfl
theorem vX0_peopleWith_53 : mStepO h k cX0_peopleWith bl Q Y (53, lv, st, σ) = (Y (14, lv, st, σ)) := (mStep_d dX0_peopleWith_53).trans (mJ_J jt_53_m39 jp_53_m39)
theorem vX0_peopleWith_56 : mStepO h k cX0_peopleWith bl Q Y (56, lv, st, σ) = (mLdI Y 58 lv st σ 4) := mStep_d dX0_peopleWith_56
theorem vX0_peopleWith_58 : mStepO h k cX0_peopleWith bl Q Y (58, lv, st, σ) = (mCaS k Y 61 lv st σ 149) := mStep_d dX0_peopleWith_58
theorem vX0_peopleWith_61 : mStepO h k cX0_peopleWith bl Q Y (61, lv, st, σ) = (mRetI bl Q st σ) := mStep_d dX0_peopleWith_61
theorem vX0_kinOf_0 : mStepO h k cX0_kinOf bl Q Y (0, lv, st, σ) = (mLdA Y 1 lv st σ 0) := mStep_d dX0_kinOf_0
theorem vX0_kinOf_1 : mStepO h k cX0_kinOf bl Q Y (1, lv, st, σ) = (mLdI Y 2 lv st σ 1) := mStep_d dX0_kinOf_1
theorem vX0_kinOf_2 : mStepO h k cX0_kinOf bl Q Y (2, lv, st, σ) = (mLdI Y 3 lv st σ 2) := mStep_d dX0_kinOf_2
theorem vX0_kinOf_3 : mStepO h k cX0_kinOf bl Q Y (3, lv, st, σ) = (mCaV k Y 6 lv st σ 111) := mStep_d dX0_kinOf_3
theorem vX0_kinOf_6 : mStepO h k cX0_kinOf bl Q Y (6, lv, st, σ) = (mLdA Y 7 lv st σ 0) := mStep_d dX0_kinOf_6
theorem vX0_kinOf_7 : mStepO h k cX0_kinOf bl Q Y (7, lv, st, σ) = (mGet h k Y 10 lv st σ 18) := mStep_d dX0_kinOf_7
theorem vX0_kinOf_10 : mStepO h k cX0_kinOf bl Q Y (10, lv, st, σ) = (Y (11, lv, .int (0) :: st, σ)) := by rw [mStep_d dX0_kinOf_10, ← mx_c0]; rfl
theorem vX0_kinOf_11 : mStepO h k cX0_kinOf bl Q Y (11, lv, st, σ) = (mLdE h Y 12 lv st σ) := mStep_d dX0_kinOf_11
theorem vX0_kinOf_12 : mStepO h k cX0_kinOf bl Q Y (12, lv, st, σ) = (mJ2 Y 17 15 lv st σ (fun x y => y ≤ x)) := (mStep_d dX0_kinOf_12).trans (mIf2_J jt_12_5 jp_12_5)
theorem vX0_kinOf_15 : mStepO h k cX0_kinOf bl Q Y (15, lv, st, σ) = (Y (16, lv, .int (0) :: st, σ)) := by rw [mStep_d dX0_kinOf_15, ← mx_c0]; rfl
theorem vX0_kinOf_16 : mStepO h k cX0_kinOf bl Q Y (16, lv, st, σ) = (mRetI bl Q st σ) := mStep_d dX0_kinOf_16
theorem vX0_kinOf_17 : mStepO h k cX0_kinOf bl Q Y (17, lv, st, σ) = (mLdA Y 18 lv st σ 0) := mStep_d dX0_kinOf_17
theorem vX0_kinOf_18 : mStepO h k cX0_kinOf bl Q Y (18, lv, st, σ) = (mLdI Y 19 lv st σ 1) := mStep_d dX0_kinOf_18
theorem vX0_kinOf_19 : mStepO h k cX0_kinOf bl Q Y (19, lv, st, σ) = (mLdI Y 20 lv st σ 1) := mStep_d dX0_kinOf_19
theorem vX0_kinOf_20 : mStepO h k cX0_kinOf bl Q Y (20, lv, st, σ) = (mCaV k Y 23 lv st σ 107) := mStep_d dX0_kinOf_20
theorem vX0_kinOf_23 : mStepO h k cX0_kinOf bl Q Y (23, lv, st, σ) = (mLdA Y 24 lv st σ 0) := mStep_d dX0_kinOf_23
theorem vX0_kinOf_24 : mStepO h k cX0_kinOf bl Q Y (24, lv, st, σ) = (mLdI Y 25 lv st σ 2) := mStep_d dX0_kinOf_24
theorem vX0_kinOf_25 : mStepO h k cX0_kinOf bl Q Y (25, lv, st, σ) = (mLdI Y 26 lv st σ 2) := mStep_d dX0_kinOf_25
theorem vX0_kinOf_26 : mStepO h k cX0_kinOf bl Q Y (26, lv, st, σ) = (mCaV k Y 29 lv st σ 107) := mStep_d dX0_kinOf_26
theorem vX0_kinOf_29 : mStepO h k cX0_kinOf bl Q Y (29, lv, st, σ) = (mBin Y 30 lv st σ (fun x y => x * y)) := mStep_d dX0_kinOf_29
theorem vX0_kinOf_30 : mStepO h k cX0_kinOf bl Q Y (30, lv, st, σ) = (mStI Y 31 lv st σ 3) := mStep_d dX0_kinOf_30
theorem vX0_kinOf_31 : mStepO h k cX0_kinOf bl Q Y (31, lv, st, σ) = (mLdI Y 32 lv st σ 3) := mStep_d dX0_kinOf_31
theorem vX0_kinOf_32 : mStepO h k cX0_kinOf bl Q Y (32, lv, st, σ) = (mN1 Y 37 35 lv st σ) := (mStep_d dX0_kinOf_32).trans (mIfN1_J jt_32_5 jp_32_5)
theorem vX0_kinOf_35 : mStepO h k cX0_kinOf bl Q Y (35, lv, st, σ) = (Y (36, lv, .int (0) :: st, σ)) := by rw [mStep_d dX0_kinOf_35, ← mx_c0]; rfl
theorem vX0_kinOf_36 : mStepO h k cX0_kinOf bl Q Y (36, lv, st, σ) = (mRetI bl Q st σ) := mStep_d dX0_kinOf_36
theorem vX0_kinOf_37 : mStepO h k cX0_kinOf bl Q Y (37, lv, st, σ) = (Y (40, lv, .int (1000) :: st, σ)) := by rw [mStep_d dX0_kinOf_37, ← mx_s1000]; rfl
theorem vX0_kinOf_40 : mStepO h k cX0_kinOf bl Q Y (40, lv, st, σ) = (mLdA Y 41 lv st σ 0) := mStep_d dX0_kinOf_40
theorem vX0_kinOf_41 : mStepO h k cX0_kinOf bl Q Y (41, lv, st, σ) = (mLdI Y 42 lv st σ 1) := mStep_d dX0_kinOf_41
theorem vX0_kinOf_42 : mStepO h k cX0_kinOf bl Q Y (42, lv, st, σ) = (mLdI Y 43 lv st σ 2) := mStep_d dX0_kinOf_42
theorem vX0_kinOf_43 : mStepO h k cX0_kinOf bl Q Y (43, lv, st, σ) = (mCaV k Y 46 lv st σ 107) := mStep_d dX0_kinOf_43
theorem vX0_kinOf_46 : mStepO h k cX0_kinOf bl Q Y (46, lv, st, σ) = (mBin Y 47 lv st σ (fun x y => x * y)) := mStep_d dX0_kinOf_46
theorem vX0_kinOf_47 : mStepO h k cX0_kinOf bl Q Y (47, lv, st, σ) = (mLdA Y 48 lv st σ 0) := mStep_d dX0_kinOf_47
theorem vX0_kinOf_48 : mStepO h k cX0_kinOf bl Q Y (48, lv, st, σ) = (mGet h k Y 51 lv st σ 83) := mStep_d dX0_kinOf_48
theorem vX0_kinOf_51 : mStepO h k cX0_kinOf bl Q Y (51, lv, st, σ) = (mBin Y 52 lv st σ (fun x y => x * y)) := mStep_d dX0_kinOf_51
theorem vX0_kinOf_52 : mStepO h k cX0_kinOf bl Q Y (52, lv, st, σ) = (mLdI Y 53 lv st σ 3) := mStep_d dX0_kinOf_52
theorem vX0_kinOf_53 : mStepO h k cX0_kinOf bl Q Y (53, lv, st, σ) = (mDiv Y 54 lv st σ (fun x y => x / y)) := mStep_d dX0_kinOf_53
theorem vX0_kinOf_54 : mStepO h k cX0_kinOf bl Q Y (54, lv, st, σ) = (Y (57, lv, .int (1000) :: st, σ)) := by rw [mStep_d dX0_kinOf_54, ← mx_s1000]; rfl
theorem vX0_kinOf_57 : mStepO h k cX0_kinOf bl Q Y (57, lv, st, σ) = (mBin Y 58 lv st σ (fun x y => x - y)) := mStep_d dX0_kinOf_57
theorem vX0_kinOf_58 : mStepO h k cX0_kinOf bl Q Y (58, lv, st, σ) = (mRetI bl Q st σ) := mStep_d dX0_kinOf_58
theorem vX0_takenBy_0 : mStepO h k cX0_takenBy bl Q Y (0, lv, st, σ) = (Y (1, lv, .int (0) :: st, σ)) := by rw [mStep_d dX0_takenBy_0, ← mx_c0]; rfl
theorem vX0_takenBy_1 : mStepO h k cX0_takenBy bl Q Y (1, lv, st, σ) = (mStI Y 2 lv st σ 2) := mStep_d dX0_takenBy_1
theorem vX0_takenBy_2 : mStepO h k cX0_takenBy bl Q Y (2, lv, st, σ) = (Y (3, lv, .int (0) :: st, σ)) := by rw [mStep_d dX0_takenBy_2, ← mx_c0]; rfl
theorem vX0_takenBy_3 : mStepO h k cX0_takenBy bl Q Y (3, lv, st, σ) = (mStI Y 4 lv st σ 3) := mStep_d dX0_takenBy_3
theorem vX0_takenBy_4 : mStepO h k cX0_takenBy bl Q Y (4, lv, st, σ) = (mLdI Y 5 lv st σ 3) := mStep_d dX0_takenBy_4
theorem vX0_takenBy_5 : mStepO h k cX0_takenBy bl Q Y (5, lv, st, σ) = (mLdA Y 6 lv st σ 0) := mStep_d dX0_takenBy_5
theorem vX0_takenBy_6 : mStepO h k cX0_takenBy bl Q Y (6, lv, st, σ) = (mGet h k Y 9 lv st σ 83) := mStep_d dX0_takenBy_6
theorem vX0_takenBy_9 : mStepO h k cX0_takenBy bl Q Y (9, lv, st, σ) = (mJ2 Y 37 12 lv st σ (fun x y => y ≤ x)) := (mStep_d dX0_takenBy_9).trans (mIf2_J jt_9_28 jp_9_28)
theorem vX0_takenBy_12 : mStepO h k cX0_takenBy bl Q Y (12, lv, st, σ) = (mLdA Y 13 lv st σ 0) := mStep_d dX0_takenBy_12
theorem vX0_takenBy_13 : mStepO h k cX0_takenBy bl Q Y (13, lv, st, σ) = (mGet h k Y 16 lv st σ 30) := mStep_d dX0_takenBy_13
theorem vX0_takenBy_16 : mStepO h k cX0_takenBy bl Q Y (16, lv, st, σ) = (mLdI Y 17 lv st σ 3) := mStep_d dX0_takenBy_16
theorem vX0_takenBy_17 : mStepO h k cX0_takenBy bl Q Y (17, lv, st, σ) = (mLdE h Y 18 lv st σ) := mStep_d dX0_takenBy_17
theorem vX0_takenBy_18 : mStepO h k cX0_takenBy bl Q Y (18, lv, st, σ) = (mLdI Y 19 lv st σ 1) := mStep_d dX0_takenBy_18
theorem vX0_takenBy_19 : mStepO h k cX0_takenBy bl Q Y (19, lv, st, σ) = (mN2 Y 31 22 lv st σ) := (mStep_d dX0_takenBy_19).trans (mIfN2_J jt_19_12 jp_19_12)
theorem vX0_takenBy_22 : mStepO h k cX0_takenBy bl Q Y (22, lv, st, σ) = (mLdI Y 23 lv st σ 2) := mStep_d dX0_takenBy_22
theorem vX0_takenBy_23 : mStepO h k cX0_takenBy bl Q Y (23, lv, st, σ) = (mLdA Y 24 lv st σ 0) := mStep_d dX0_takenBy_23
theorem vX0_takenBy_24 : mStepO h k cX0_takenBy bl Q Y (24, lv, st, σ) = (mGet h k Y 27 lv st σ 36) := mStep_d dX0_takenBy_24
theorem vX0_takenBy_27 : mStepO h k cX0_takenBy bl Q Y (27, lv, st, σ) = (mLdI Y 28 lv st σ 3) := mStep_d dX0_takenBy_27
theorem vX0_takenBy_28 : mStepO h k cX0_takenBy bl Q Y (28, lv, st, σ) = (mLdE h Y 29 lv st σ) := mStep_d dX0_takenBy_28
theorem vX0_takenBy_29 : mStepO h k cX0_takenBy bl Q Y (29, lv, st, σ) = (mBin Y 30 lv st σ (fun x y => x ||| y)) := mStep_d dX0_takenBy_29
theorem vX0_takenBy_30 : mStepO h k cX0_takenBy bl Q Y (30, lv, st, σ) = (mStI Y 31 lv st σ 2) := mStep_d dX0_takenBy_30
theorem vX0_takenBy_31 : mStepO h k cX0_takenBy bl Q Y (31, lv, st, σ) = (mInc Y 34 lv st σ 3 (1)) := by rw [mStep_d dX0_takenBy_31, ← mx_c1]; rfl
theorem vX0_takenBy_34 : mStepO h k cX0_takenBy bl Q Y (34, lv, st, σ) = (Y (4, lv, st, σ)) := (mStep_d dX0_takenBy_34).trans (mJ_J jt_34_m30 jp_34_m30)
theorem vX0_takenBy_37 : mStepO h k cX0_takenBy bl Q Y (37, lv, st, σ) = (mLdI Y 38 lv st σ 2) := mStep_d dX0_takenBy_37
theorem vX0_takenBy_38 : mStepO h k cX0_takenBy bl Q Y (38, lv, st, σ) = (mRetI bl Q st σ) := mStep_d dX0_takenBy_38
theorem vX0_scoreOf_0 : mStepO h k cX0_scoreOf bl Q Y (0, lv, st, σ) = (Y (1, lv, .int (0) :: st, σ)) := by rw [mStep_d dX0_scoreOf_0, ← mx_c0]; rfl
theorem vX0_scoreOf_1 : mStepO h k cX0_scoreOf bl Q Y (1, lv, st, σ) = (mStI Y 2 lv st σ 3) := mStep_d dX0_scoreOf_1
theorem vX0_scoreOf_2 : mStepO h k cX0_scoreOf bl Q Y (2, lv, st, σ) = (Y (3, lv, .int (0) :: st, σ)) := by rw [mStep_d dX0_scoreOf_2, ← mx_c0]; rfl
theorem vX0_scoreOf_3 : mStepO h k cX0_scoreOf bl Q Y (3, lv, st, σ) = (mStI Y 5 lv st σ 4) := mStep_d dX0_scoreOf_3
theorem vX0_scoreOf_5 : mStepO h k cX0_scoreOf bl Q Y (5, lv, st, σ) = (mLdI Y 7 lv st σ 4) := mStep_d dX0_scoreOf_5
theorem vX0_scoreOf_7 : mStepO h k cX0_scoreOf bl Q Y (7, lv, st, σ) = (mLdA Y 8 lv st σ 0) := mStep_d dX0_scoreOf_7
theorem vX0_scoreOf_8 : mStepO h k cX0_scoreOf bl Q Y (8, lv, st, σ) = (mGet h k Y 11 lv st σ 53) := mStep_d dX0_scoreOf_8
theorem vX0_scoreOf_11 : mStepO h k cX0_scoreOf bl Q Y (11, lv, st, σ) = (mJ2 Y 45 14 lv st σ (fun x y => y ≤ x)) := (mStep_d dX0_scoreOf_11).trans (mIf2_J jt_11_34 jp_11_34)
theorem vX0_scoreOf_14 : mStepO h k cX0_scoreOf bl Q Y (14, lv, st, σ) = (mLdI Y 16 lv st σ 4) := mStep_d dX0_scoreOf_14
theorem vX0_scoreOf_16 : mStepO h k cX0_scoreOf bl Q Y (16, lv, st, σ) = (mLdI Y 17 lv st σ 2) := mStep_d dX0_scoreOf_16
theorem vX0_scoreOf_17 : mStepO h k cX0_scoreOf bl Q Y (17, lv, st, σ) = (mJ2 Y 39 20 lv st σ (fun x y => x = y)) := (mStep_d dX0_scoreOf_17).trans (mIf2_J jt_17_22 jp_17_22)
theorem vX0_scoreOf_20 : mStepO h k cX0_scoreOf bl Q Y (20, lv, st, σ) = (mLdI Y 21 lv st σ 1) := mStep_d dX0_scoreOf_20
theorem vX0_scoreOf_21 : mStepO h k cX0_scoreOf bl Q Y (21, lv, st, σ) = (mLdI Y 23 lv st σ 4) := mStep_d dX0_scoreOf_21
theorem vX0_scoreOf_23 : mStepO h k cX0_scoreOf bl Q Y (23, lv, st, σ) = (mCaS k Y 26 lv st σ 67) := mStep_d dX0_scoreOf_23
theorem vX0_scoreOf_26 : mStepO h k cX0_scoreOf bl Q Y (26, lv, st, σ) = (mJ1 Y 39 29 lv st σ (fun x => x = 0)) := (mStep_d dX0_scoreOf_26).trans (mIf1_J jt_26_13 jp_26_13)
theorem vX0_scoreOf_29 : mStepO h k cX0_scoreOf bl Q Y (29, lv, st, σ) = (mLdI Y 30 lv st σ 3) := mStep_d dX0_scoreOf_29
theorem vX0_scoreOf_30 : mStepO h k cX0_scoreOf bl Q Y (30, lv, st, σ) = (mLdA Y 31 lv st σ 0) := mStep_d dX0_scoreOf_30
theorem vX0_scoreOf_31 : mStepO h k cX0_scoreOf bl Q Y (31, lv, st, σ) = (mLdI Y 32 lv st σ 2) := mStep_d dX0_scoreOf_31
theorem vX0_scoreOf_32 : mStepO h k cX0_scoreOf bl Q Y (32, lv, st, σ) = (mLdI Y 34 lv st σ 4) := mStep_d dX0_scoreOf_32
theorem vX0_scoreOf_34 : mStepO h k cX0_scoreOf bl Q Y (34, lv, st, σ) = (mCaV k Y 37 lv st σ 114) := mStep_d dX0_scoreOf_34
theorem vX0_scoreOf_37 : mStepO h k cX0_scoreOf bl Q Y (37, lv, st, σ) = (mBin Y 38 lv st σ (fun x y => x + y)) := mStep_d dX0_scoreOf_37
theorem vX0_scoreOf_38 : mStepO h k cX0_scoreOf bl Q Y (38, lv, st, σ) = (mStI Y 39 lv st σ 3) := mStep_d dX0_scoreOf_38
theorem vX0_scoreOf_39 : mStepO h k cX0_scoreOf bl Q Y (39, lv, st, σ) = (mInc Y 42 lv st σ 4 (1)) := by rw [mStep_d dX0_scoreOf_39, ← mx_c1]; rfl
theorem vX0_scoreOf_42 : mStepO h k cX0_scoreOf bl Q Y (42, lv, st, σ) = (Y (5, lv, st, σ)) := (mStep_d dX0_scoreOf_42).trans (mJ_J jt_42_m37 jp_42_m37)
theorem vX0_scoreOf_45 : mStepO h k cX0_scoreOf bl Q Y (45, lv, st, σ) = (mLdI Y 46 lv st σ 3) := mStep_d dX0_scoreOf_45
theorem vX0_scoreOf_46 : mStepO h k cX0_scoreOf bl Q Y (46, lv, st, σ) = (mRetI bl Q st σ) := mStep_d dX0_scoreOf_46
theorem vX0_writeKin_0 : mStepO h k cX0_writeKin bl Q Y (0, lv, st, σ) = (Y (1, lv, .int (0) :: st, σ)) := by rw [mStep_d dX0_writeKin_0, ← mx_c0]; rfl
theorem vX0_writeKin_1 : mStepO h k cX0_writeKin bl Q Y (1, lv, st, σ) = (mStI Y 2 lv st σ 3) := mStep_d dX0_writeKin_1
theorem vX0_writeKin_2 : mStepO h k cX0_writeKin bl Q Y (2, lv, st, σ) = (mLdI Y 3 lv st σ 3) := mStep_d dX0_writeKin_2
theorem vX0_writeKin_3 : mStepO h k cX0_writeKin bl Q Y (3, lv, st, σ) = (mLdA Y 4 lv st σ 0) := mStep_d dX0_writeKin_3
theorem vX0_writeKin_4 : mStepO h k cX0_writeKin bl Q Y (4, lv, st, σ) = (mGet h k Y 7 lv st σ 53) := mStep_d dX0_writeKin_4
theorem vX0_writeKin_7 : mStepO h k cX0_writeKin bl Q Y (7, lv, st, σ) = (mJ2 Y 36 10 lv st σ (fun x y => y ≤ x)) := (mStep_d dX0_writeKin_7).trans (mIf2_J jt_7_29 jp_7_29)
theorem vX0_writeKin_10 : mStepO h k cX0_writeKin bl Q Y (10, lv, st, σ) = (mLdI Y 11 lv st σ 2) := mStep_d dX0_writeKin_10
theorem vX0_writeKin_11 : mStepO h k cX0_writeKin bl Q Y (11, lv, st, σ) = (mLdI Y 12 lv st σ 3) := mStep_d dX0_writeKin_11
theorem vX0_writeKin_12 : mStepO h k cX0_writeKin bl Q Y (12, lv, st, σ) = (mCaS k Y 15 lv st σ 67) := mStep_d dX0_writeKin_12
theorem vX0_writeKin_15 : mStepO h k cX0_writeKin bl Q Y (15, lv, st, σ) = (mJ1 Y 30 18 lv st σ (fun x => x = 0)) := (mStep_d dX0_writeKin_15).trans (mIf1_J jt_15_15 jp_15_15)
theorem vX0_writeKin_18 : mStepO h k cX0_writeKin bl Q Y (18, lv, st, σ) = (mLdA Y 19 lv st σ 0) := mStep_d dX0_writeKin_18
theorem vX0_writeKin_19 : mStepO h k cX0_writeKin bl Q Y (19, lv, st, σ) = (mGet h k Y 22 lv st σ 50) := mStep_d dX0_writeKin_19
theorem vX0_writeKin_22 : mStepO h k cX0_writeKin bl Q Y (22, lv, st, σ) = (mLdI Y 23 lv st σ 3) := mStep_d dX0_writeKin_22
theorem vX0_writeKin_23 : mStepO h k cX0_writeKin bl Q Y (23, lv, st, σ) = (mLdA Y 24 lv st σ 0) := mStep_d dX0_writeKin_23
theorem vX0_writeKin_24 : mStepO h k cX0_writeKin bl Q Y (24, lv, st, σ) = (mLdI Y 25 lv st σ 1) := mStep_d dX0_writeKin_24
theorem vX0_writeKin_25 : mStepO h k cX0_writeKin bl Q Y (25, lv, st, σ) = (mLdI Y 26 lv st σ 3) := mStep_d dX0_writeKin_25
theorem vX0_writeKin_26 : mStepO h k cX0_writeKin bl Q Y (26, lv, st, σ) = (mCaV k Y 29 lv st σ 114) := mStep_d dX0_writeKin_26
theorem vX0_writeKin_29 : mStepO h k cX0_writeKin bl Q Y (29, lv, st, σ) = (mStE h Y 30 lv st σ) := mStep_d dX0_writeKin_29
theorem vX0_writeKin_30 : mStepO h k cX0_writeKin bl Q Y (30, lv, st, σ) = (mInc Y 33 lv st σ 3 (1)) := by rw [mStep_d dX0_writeKin_30, ← mx_c1]; rfl
theorem vX0_writeKin_33 : mStepO h k cX0_writeKin bl Q Y (33, lv, st, σ) = (Y (2, lv, st, σ)) := (mStep_d dX0_writeKin_33).trans (mJ_J jt_33_m31 jp_33_m31)
theorem vX0_writeKin_36 : mStepO h k cX0_writeKin bl Q Y (36, lv, st, σ) = (mRetV bl Q st σ) := mStep_d dX0_writeKin_36
theorem vX0_writeScores_0 : mStepO h k cX0_writeScores bl Q Y (0, lv, st, σ) = (mLdA Y 1 lv st σ 0) := mStep_d dX0_writeScores_0
theorem vX0_writeScores_1 : mStepO h k cX0_writeScores bl Q Y (1, lv, st, σ) = (mLdI Y 2 lv st σ 1) := mStep_d dX0_writeScores_1
theorem vX0_writeScores_2 : mStepO h k cX0_writeScores bl Q Y (2, lv, st, σ) = (mCaV k Y 5 lv st σ 125) := mStep_d dX0_writeScores_2
theorem vX0_writeScores_5 : mStepO h k cX0_writeScores bl Q Y (5, lv, st, σ) = (mStI Y 6 lv st σ 3) := mStep_d dX0_writeScores_5
theorem vX0_writeScores_6 : mStepO h k cX0_writeScores bl Q Y (6, lv, st, σ) = (Y (7, lv, .int (0) :: st, σ)) := by rw [mStep_d dX0_writeScores_6, ← mx_c0]; rfl
theorem vX0_writeScores_7 : mStepO h k cX0_writeScores bl Q Y (7, lv, st, σ) = (mStI Y 9 lv st σ 4) := mStep_d dX0_writeScores_7
theorem vX0_writeScores_9 : mStepO h k cX0_writeScores bl Q Y (9, lv, st, σ) = (mLdI Y 11 lv st σ 4) := mStep_d dX0_writeScores_9
theorem vX0_writeScores_11 : mStepO h k cX0_writeScores bl Q Y (11, lv, st, σ) = (mLdA Y 12 lv st σ 0) := mStep_d dX0_writeScores_11
theorem vX0_writeScores_12 : mStepO h k cX0_writeScores bl Q Y (12, lv, st, σ) = (mGet h k Y 15 lv st σ 53) := mStep_d dX0_writeScores_12
theorem vX0_writeScores_15 : mStepO h k cX0_writeScores bl Q Y (15, lv, st, σ) = (mJ2 Y 47 18 lv st σ (fun x y => y ≤ x)) := (mStep_d dX0_writeScores_15).trans (mIf2_J jt_15_32 jp_15_32)
theorem vX0_writeScores_18 : mStepO h k cX0_writeScores bl Q Y (18, lv, st, σ) = (mLdI Y 19 lv st σ 2) := mStep_d dX0_writeScores_18
theorem vX0_writeScores_19 : mStepO h k cX0_writeScores bl Q Y (19, lv, st, σ) = (mLdI Y 21 lv st σ 4) := mStep_d dX0_writeScores_19
theorem vX0_writeScores_21 : mStepO h k cX0_writeScores bl Q Y (21, lv, st, σ) = (mCaS k Y 24 lv st σ 67) := mStep_d dX0_writeScores_21
theorem vX0_writeScores_24 : mStepO h k cX0_writeScores bl Q Y (24, lv, st, σ) = (mJ1 Y 41 27 lv st σ (fun x => x = 0)) := (mStep_d dX0_writeScores_24).trans (mIf1_J jt_24_17 jp_24_17)
theorem vX0_writeScores_27 : mStepO h k cX0_writeScores bl Q Y (27, lv, st, σ) = (mLdA Y 28 lv st σ 0) := mStep_d dX0_writeScores_27
theorem vX0_writeScores_28 : mStepO h k cX0_writeScores bl Q Y (28, lv, st, σ) = (mGet h k Y 31 lv st σ 50) := mStep_d dX0_writeScores_28
theorem vX0_writeScores_31 : mStepO h k cX0_writeScores bl Q Y (31, lv, st, σ) = (mLdI Y 33 lv st σ 4) := mStep_d dX0_writeScores_31
theorem vX0_writeScores_33 : mStepO h k cX0_writeScores bl Q Y (33, lv, st, σ) = (mLdA Y 34 lv st σ 0) := mStep_d dX0_writeScores_33
theorem vX0_writeScores_34 : mStepO h k cX0_writeScores bl Q Y (34, lv, st, σ) = (mLdI Y 35 lv st σ 3) := mStep_d dX0_writeScores_34
theorem vX0_writeScores_35 : mStepO h k cX0_writeScores bl Q Y (35, lv, st, σ) = (mLdI Y 37 lv st σ 4) := mStep_d dX0_writeScores_35
theorem vX0_writeScores_37 : mStepO h k cX0_writeScores bl Q Y (37, lv, st, σ) = (mCaV k Y 40 lv st σ 128) := mStep_d dX0_writeScores_37
theorem vX0_writeScores_40 : mStepO h k cX0_writeScores bl Q Y (40, lv, st, σ) = (mStE h Y 41 lv st σ) := mStep_d dX0_writeScores_40
theorem vX0_writeScores_41 : mStepO h k cX0_writeScores bl Q Y (41, lv, st, σ) = (mInc Y 44 lv st σ 4 (1)) := by rw [mStep_d dX0_writeScores_41, ← mx_c1]; rfl
theorem vX0_writeScores_44 : mStepO h k cX0_writeScores bl Q Y (44, lv, st, σ) = (Y (9, lv, st, σ)) := (mStep_d dX0_writeScores_44).trans (mJ_J jt_44_m35 jp_44_m35)
theorem vX0_writeScores_47 : mStepO h k cX0_writeScores bl Q Y (47, lv, st, σ) = (mRetV bl Q st σ) := mStep_d dX0_writeScores_47
theorem vX0_bestByPoints_0 : mStepO h k cX0_bestByPoints bl Q Y (0, lv, st, σ) = (Y (1, lv, .int (0) :: st, σ)) := by rw [mStep_d dX0_bestByPoints_0, ← mx_c0]; rfl
theorem vX0_bestByPoints_1 : mStepO h k cX0_bestByPoints bl Q Y (1, lv, st, σ) = (mStI Y 2 lv st σ 2) := mStep_d dX0_bestByPoints_1
theorem vX0_bestByPoints_2 : mStepO h k cX0_bestByPoints bl Q Y (2, lv, st, σ) = (Y (3, lv, .int (0) :: st, σ)) := by rw [mStep_d dX0_bestByPoints_2, ← mx_c0]; rfl
theorem vX0_bestByPoints_3 : mStepO h k cX0_bestByPoints bl Q Y (3, lv, st, σ) = (mStI Y 4 lv st σ 3) := mStep_d dX0_bestByPoints_3
theorem vX0_bestByPoints_4 : mStepO h k cX0_bestByPoints bl Q Y (4, lv, st, σ) = (Y (5, lv, .int (0) :: st, σ)) := by rw [mStep_d dX0_bestByPoints_4, ← mx_c0]; rfl
theorem vX0_bestByPoints_5 : mStepO h k cX0_bestByPoints bl Q Y (5, lv, st, σ) = (mStI Y 7 lv st σ 4) := mStep_d dX0_bestByPoints_5
theorem vX0_bestByPoints_7 : mStepO h k cX0_bestByPoints bl Q Y (7, lv, st, σ) = (mLdI Y 9 lv st σ 4) := mStep_d dX0_bestByPoints_7
theorem vX0_bestByPoints_9 : mStepO h k cX0_bestByPoints bl Q Y (9, lv, st, σ) = (mLdA Y 10 lv st σ 0) := mStep_d dX0_bestByPoints_9
theorem vX0_bestByPoints_10 : mStepO h k cX0_bestByPoints bl Q Y (10, lv, st, σ) = (mGet h k Y 13 lv st σ 53) := mStep_d dX0_bestByPoints_10
theorem vX0_bestByPoints_13 : mStepO h k cX0_bestByPoints bl Q Y (13, lv, st, σ) = (mJ2 Y 56 16 lv st σ (fun x y => y ≤ x)) := (mStep_d dX0_bestByPoints_13).trans (mIf2_J jt_13_43 jp_13_43)
theorem vX0_bestByPoints_16 : mStepO h k cX0_bestByPoints bl Q Y (16, lv, st, σ) = (mLdI Y 17 lv st σ 1) := mStep_d dX0_bestByPoints_16
theorem vX0_bestByPoints_17 : mStepO h k cX0_bestByPoints bl Q Y (17, lv, st, σ) = (mLdI Y 19 lv st σ 4) := mStep_d dX0_bestByPoints_17
theorem vX0_bestByPoints_19 : mStepO h k cX0_bestByPoints bl Q Y (19, lv, st, σ) = (mCaS k Y 22 lv st σ 67) := mStep_d dX0_bestByPoints_19
theorem vX0_bestByPoints_22 : mStepO h k cX0_bestByPoints bl Q Y (22, lv, st, σ) = (mJ1 Y 50 25 lv st σ (fun x => x = 0)) := (mStep_d dX0_bestByPoints_22).trans (mIf1_J jt_22_28 jp_22_28)
theorem vX0_bestByPoints_25 : mStepO h k cX0_bestByPoints bl Q Y (25, lv, st, σ) = (mLdI Y 26 lv st σ 3) := mStep_d dX0_bestByPoints_25
theorem vX0_bestByPoints_26 : mStepO h k cX0_bestByPoints bl Q Y (26, lv, st, σ) = (mJ1 Y 45 29 lv st σ (fun x => x = 0)) := (mStep_d dX0_bestByPoints_26).trans (mIf1_J jt_26_19 jp_26_19)
theorem vX0_bestByPoints_29 : mStepO h k cX0_bestByPoints bl Q Y (29, lv, st, σ) = (mLdA Y 30 lv st σ 0) := mStep_d dX0_bestByPoints_29
theorem vX0_bestByPoints_30 : mStepO h k cX0_bestByPoints bl Q Y (30, lv, st, σ) = (mGet h k Y 33 lv st σ 50) := mStep_d dX0_bestByPoints_30
theorem vX0_bestByPoints_33 : mStepO h k cX0_bestByPoints bl Q Y (33, lv, st, σ) = (mLdI Y 35 lv st σ 4) := mStep_d dX0_bestByPoints_33
theorem vX0_bestByPoints_35 : mStepO h k cX0_bestByPoints bl Q Y (35, lv, st, σ) = (mLdE h Y 36 lv st σ) := mStep_d dX0_bestByPoints_35
theorem vX0_bestByPoints_36 : mStepO h k cX0_bestByPoints bl Q Y (36, lv, st, σ) = (mLdA Y 37 lv st σ 0) := mStep_d dX0_bestByPoints_36
theorem vX0_bestByPoints_37 : mStepO h k cX0_bestByPoints bl Q Y (37, lv, st, σ) = (mGet h k Y 40 lv st σ 50) := mStep_d dX0_bestByPoints_37
theorem vX0_bestByPoints_40 : mStepO h k cX0_bestByPoints bl Q Y (40, lv, st, σ) = (mLdI Y 41 lv st σ 2) := mStep_d dX0_bestByPoints_40
theorem vX0_bestByPoints_41 : mStepO h k cX0_bestByPoints bl Q Y (41, lv, st, σ) = (mLdE h Y 42 lv st σ) := mStep_d dX0_bestByPoints_41
theorem vX0_bestByPoints_42 : mStepO h k cX0_bestByPoints bl Q Y (42, lv, st, σ) = (mJ2 Y 50 45 lv st σ (fun x y => x ≤ y)) := (mStep_d dX0_bestByPoints_42).trans (mIf2_J jt_42_8 jp_42_8)
theorem vX0_bestByPoints_45 : mStepO h k cX0_bestByPoints bl Q Y (45, lv, st, σ) = (mLdI Y 47 lv st σ 4) := mStep_d dX0_bestByPoints_45
theorem vX0_bestByPoints_47 : mStepO h k cX0_bestByPoints bl Q Y (47, lv, st, σ) = (mStI Y 48 lv st σ 2) := mStep_d dX0_bestByPoints_47
theorem vX0_bestByPoints_48 : mStepO h k cX0_bestByPoints bl Q Y (48, lv, st, σ) = (Y (49, lv, .int (1) :: st, σ)) := by rw [mStep_d dX0_bestByPoints_48, ← mx_c1]; rfl
theorem vX0_bestByPoints_49 : mStepO h k cX0_bestByPoints bl Q Y (49, lv, st, σ) = (mStI Y 50 lv st σ 3) := mStep_d dX0_bestByPoints_49
theorem vX0_bestByPoints_50 : mStepO h k cX0_bestByPoints bl Q Y (50, lv, st, σ) = (mInc Y 53 lv st σ 4 (1)) := by rw [mStep_d dX0_bestByPoints_50, ← mx_c1]; rfl
theorem vX0_bestByPoints_53 : mStepO h k cX0_bestByPoints bl Q Y (53, lv, st, σ) = (Y (7, lv, st, σ)) := (mStep_d dX0_bestByPoints_53).trans (mJ_J jt_53_m46 jp_53_m46)
theorem vX0_bestByPoints_56 : mStepO h k cX0_bestByPoints bl Q Y (56, lv, st, σ) = (mLdI Y 57 lv st σ 2) := mStep_d dX0_bestByPoints_56
theorem vX0_bestByPoints_57 : mStepO h k cX0_bestByPoints bl Q Y (57, lv, st, σ) = (mRetI bl Q st σ) := mStep_d dX0_bestByPoints_57
theorem vX0_sumOfPoints_0 : mStepO h k cX0_sumOfPoints bl Q Y (0, lv, st, σ) = (Y (1, lv, .int (0) :: st, σ)) := by rw [mStep_d dX0_sumOfPoints_0, ← mx_c0]; rfl
theorem vX0_sumOfPoints_1 : mStepO h k cX0_sumOfPoints bl Q Y (1, lv, st, σ) = (mStI Y 2 lv st σ 2) := mStep_d dX0_sumOfPoints_1
theorem vX0_sumOfPoints_2 : mStepO h k cX0_sumOfPoints bl Q Y (2, lv, st, σ) = (Y (3, lv, .int (0) :: st, σ)) := by rw [mStep_d dX0_sumOfPoints_2, ← mx_c0]; rfl
theorem vX0_sumOfPoints_3 : mStepO h k cX0_sumOfPoints bl Q Y (3, lv, st, σ) = (mStI Y 4 lv st σ 3) := mStep_d dX0_sumOfPoints_3
theorem vX0_sumOfPoints_4 : mStepO h k cX0_sumOfPoints bl Q Y (4, lv, st, σ) = (mLdI Y 5 lv st σ 3) := mStep_d dX0_sumOfPoints_4
theorem vX0_sumOfPoints_5 : mStepO h k cX0_sumOfPoints bl Q Y (5, lv, st, σ) = (mLdA Y 6 lv st σ 0) := mStep_d dX0_sumOfPoints_5
theorem vX0_sumOfPoints_6 : mStepO h k cX0_sumOfPoints bl Q Y (6, lv, st, σ) = (mGet h k Y 9 lv st σ 53) := mStep_d dX0_sumOfPoints_6
theorem vX0_sumOfPoints_9 : mStepO h k cX0_sumOfPoints bl Q Y (9, lv, st, σ) = (mJ2 Y 35 12 lv st σ (fun x y => y ≤ x)) := (mStep_d dX0_sumOfPoints_9).trans (mIf2_J jt_9_26 jp_9_26)
theorem vX0_sumOfPoints_12 : mStepO h k cX0_sumOfPoints bl Q Y (12, lv, st, σ) = (mLdI Y 13 lv st σ 1) := mStep_d dX0_sumOfPoints_12
theorem vX0_sumOfPoints_13 : mStepO h k cX0_sumOfPoints bl Q Y (13, lv, st, σ) = (mLdI Y 14 lv st σ 3) := mStep_d dX0_sumOfPoints_13
theorem vX0_sumOfPoints_14 : mStepO h k cX0_sumOfPoints bl Q Y (14, lv, st, σ) = (mCaS k Y 17 lv st σ 67) := mStep_d dX0_sumOfPoints_14
theorem vX0_sumOfPoints_17 : mStepO h k cX0_sumOfPoints bl Q Y (17, lv, st, σ) = (mJ1 Y 29 20 lv st σ (fun x => x = 0)) := (mStep_d dX0_sumOfPoints_17).trans (mIf1_J jt_17_12 jp_17_12)
theorem vX0_sumOfPoints_20 : mStepO h k cX0_sumOfPoints bl Q Y (20, lv, st, σ) = (mLdI Y 21 lv st σ 2) := mStep_d dX0_sumOfPoints_20
theorem vX0_sumOfPoints_21 : mStepO h k cX0_sumOfPoints bl Q Y (21, lv, st, σ) = (mLdA Y 22 lv st σ 0) := mStep_d dX0_sumOfPoints_21
theorem vX0_sumOfPoints_22 : mStepO h k cX0_sumOfPoints bl Q Y (22, lv, st, σ) = (mGet h k Y 25 lv st σ 50) := mStep_d dX0_sumOfPoints_22
theorem vX0_sumOfPoints_25 : mStepO h k cX0_sumOfPoints bl Q Y (25, lv, st, σ) = (mLdI Y 26 lv st σ 3) := mStep_d dX0_sumOfPoints_25
theorem vX0_sumOfPoints_26 : mStepO h k cX0_sumOfPoints bl Q Y (26, lv, st, σ) = (mLdE h Y 27 lv st σ) := mStep_d dX0_sumOfPoints_26
theorem vX0_sumOfPoints_27 : mStepO h k cX0_sumOfPoints bl Q Y (27, lv, st, σ) = (mBin Y 28 lv st σ (fun x y => x + y)) := mStep_d dX0_sumOfPoints_27
theorem vX0_sumOfPoints_28 : mStepO h k cX0_sumOfPoints bl Q Y (28, lv, st, σ) = (mStI Y 29 lv st σ 2) := mStep_d dX0_sumOfPoints_28
theorem vX0_sumOfPoints_29 : mStepO h k cX0_sumOfPoints bl Q Y (29, lv, st, σ) = (mInc Y 32 lv st σ 3 (1)) := by rw [mStep_d dX0_sumOfPoints_29, ← mx_c1]; rfl
theorem vX0_sumOfPoints_32 : mStepO h k cX0_sumOfPoints bl Q Y (32, lv, st, σ) = (Y (4, lv, st, σ)) := (mStep_d dX0_sumOfPoints_32).trans (mJ_J jt_32_m28 jp_32_m28)
theorem vX0_sumOfPoints_35 : mStepO h k cX0_sumOfPoints bl Q Y (35, lv, st, σ) = (mLdI Y 36 lv st σ 2) := mStep_d dX0_sumOfPoints_35
theorem vX0_sumOfPoints_36 : mStepO h k cX0_sumOfPoints bl Q Y (36, lv, st, σ) = (mRetI bl Q st σ) := mStep_d dX0_sumOfPoints_36
theorem vX0_mayPutUp_0 : mStepO h k cX0_mayPutUp bl Q Y (0, lv, st, σ) = (mLdA Y 1 lv st σ 0) := mStep_d dX0_mayPutUp_0
theorem vX0_mayPutUp_1 : mStepO h k cX0_mayPutUp bl Q Y (1, lv, st, σ) = (mGet h k Y 4 lv st σ 60) := mStep_d dX0_mayPutUp_1
theorem vX0_mayPutUp_4 : mStepO h k cX0_mayPutUp bl Q Y (4, lv, st, σ) = (mLdA Y 5 lv st σ 0) := mStep_d dX0_mayPutUp_4
theorem vX0_mayPutUp_5 : mStepO h k cX0_mayPutUp bl Q Y (5, lv, st, σ) = (mLdI Y 6 lv st σ 1) := mStep_d dX0_mayPutUp_5
theorem vX0_mayPutUp_6 : mStepO h k cX0_mayPutUp bl Q Y (6, lv, st, σ) = (mCaV k Y 9 lv st σ 125) := mStep_d dX0_mayPutUp_6
theorem vX0_mayPutUp_9 : mStepO h k cX0_mayPutUp bl Q Y (9, lv, st, σ) = (Y (10, lv, .int (-1) :: st, σ)) := by rw [mStep_d dX0_mayPutUp_9, ← mx_cm1]; rfl
theorem vX0_mayPutUp_10 : mStepO h k cX0_mayPutUp bl Q Y (10, lv, st, σ) = (mBin Y 11 lv st σ (fun x y => x ^^^ y)) := mStep_d dX0_mayPutUp_10
theorem vX0_mayPutUp_11 : mStepO h k cX0_mayPutUp bl Q Y (11, lv, st, σ) = (mBin Y 12 lv st σ (fun x y => x &&& y)) := mStep_d dX0_mayPutUp_11
theorem vX0_mayPutUp_12 : mStepO h k cX0_mayPutUp bl Q Y (12, lv, st, σ) = (mStI Y 13 lv st σ 2) := mStep_d dX0_mayPutUp_12
theorem vX0_mayPutUp_13 : mStepO h k cX0_mayPutUp bl Q Y (13, lv, st, σ) = (Y (14, lv, .int (0) :: st, σ)) := by rw [mStep_d dX0_mayPutUp_13, ← mx_c0]; rfl
theorem vX0_mayPutUp_14 : mStepO h k cX0_mayPutUp bl Q Y (14, lv, st, σ) = (mStI Y 15 lv st σ 3) := mStep_d dX0_mayPutUp_14
theorem vX0_mayPutUp_15 : mStepO h k cX0_mayPutUp bl Q Y (15, lv, st, σ) = (mLdI Y 16 lv st σ 3) := mStep_d dX0_mayPutUp_15
theorem vX0_mayPutUp_16 : mStepO h k cX0_mayPutUp bl Q Y (16, lv, st, σ) = (mLdA Y 17 lv st σ 0) := mStep_d dX0_mayPutUp_16
theorem vX0_mayPutUp_17 : mStepO h k cX0_mayPutUp bl Q Y (17, lv, st, σ) = (mGet h k Y 20 lv st σ 53) := mStep_d dX0_mayPutUp_17
theorem vX0_mayPutUp_20 : mStepO h k cX0_mayPutUp bl Q Y (20, lv, st, σ) = (mJ2 Y 46 23 lv st σ (fun x y => y ≤ x)) := (mStep_d dX0_mayPutUp_20).trans (mIf2_J jt_20_26 jp_20_26)
theorem vX0_mayPutUp_23 : mStepO h k cX0_mayPutUp bl Q Y (23, lv, st, σ) = (mLdA Y 24 lv st σ 0) := mStep_d dX0_mayPutUp_23
theorem vX0_mayPutUp_24 : mStepO h k cX0_mayPutUp bl Q Y (24, lv, st, σ) = (mLdI Y 25 lv st σ 1) := mStep_d dX0_mayPutUp_24
theorem vX0_mayPutUp_25 : mStepO h k cX0_mayPutUp bl Q Y (25, lv, st, σ) = (mLdI Y 26 lv st σ 3) := mStep_d dX0_mayPutUp_25
theorem vX0_mayPutUp_26 : mStepO h k cX0_mayPutUp bl Q Y (26, lv, st, σ) = (mCaV k Y 29 lv st σ 146) := mStep_d dX0_mayPutUp_26
theorem vX0_mayPutUp_29 : mStepO h k cX0_mayPutUp bl Q Y (29, lv, st, σ) = (mJ1 Y 40 32 lv st σ (fun x => x ≤ 0)) := (mStep_d dX0_mayPutUp_29).trans (mIf1_J jt_29_11 jp_29_11)
theorem vX0_mayPutUp_32 : mStepO h k cX0_mayPutUp bl Q Y (32, lv, st, σ) = (mLdI Y 33 lv st σ 2) := mStep_d dX0_mayPutUp_32
theorem vX0_mayPutUp_33 : mStepO h k cX0_mayPutUp bl Q Y (33, lv, st, σ) = (Y (34, lv, .int (1) :: st, σ)) := by rw [mStep_d dX0_mayPutUp_33, ← mx_c1]; rfl
theorem vX0_mayPutUp_34 : mStepO h k cX0_mayPutUp bl Q Y (34, lv, st, σ) = (mLdI Y 35 lv st σ 3) := mStep_d dX0_mayPutUp_34
theorem vX0_mayPutUp_35 : mStepO h k cX0_mayPutUp bl Q Y (35, lv, st, σ) = (mBin Y 36 lv st σ (fun x y => x <<< (y &&& 31))) := mStep_d dX0_mayPutUp_35
theorem vX0_mayPutUp_36 : mStepO h k cX0_mayPutUp bl Q Y (36, lv, st, σ) = (Y (37, lv, .int (-1) :: st, σ)) := by rw [mStep_d dX0_mayPutUp_36, ← mx_cm1]; rfl
theorem vX0_mayPutUp_37 : mStepO h k cX0_mayPutUp bl Q Y (37, lv, st, σ) = (mBin Y 38 lv st σ (fun x y => x ^^^ y)) := mStep_d dX0_mayPutUp_37
theorem vX0_mayPutUp_38 : mStepO h k cX0_mayPutUp bl Q Y (38, lv, st, σ) = (mBin Y 39 lv st σ (fun x y => x &&& y)) := mStep_d dX0_mayPutUp_38
theorem vX0_mayPutUp_39 : mStepO h k cX0_mayPutUp bl Q Y (39, lv, st, σ) = (mStI Y 40 lv st σ 2) := mStep_d dX0_mayPutUp_39
theorem vX0_mayPutUp_40 : mStepO h k cX0_mayPutUp bl Q Y (40, lv, st, σ) = (mInc Y 43 lv st σ 3 (1)) := by rw [mStep_d dX0_mayPutUp_40, ← mx_c1]; rfl
theorem vX0_mayPutUp_43 : mStepO h k cX0_mayPutUp bl Q Y (43, lv, st, σ) = (Y (15, lv, st, σ)) := (mStep_d dX0_mayPutUp_43).trans (mJ_J jt_43_m28 jp_43_m28)
theorem vX0_mayPutUp_46 : mStepO h k cX0_mayPutUp bl Q Y (46, lv, st, σ) = (mLdI Y 47 lv st σ 2) := mStep_d dX0_mayPutUp_46
theorem vX0_mayPutUp_47 : mStepO h k cX0_mayPutUp bl Q Y (47, lv, st, σ) = (mRetI bl Q st σ) := mStep_d dX0_mayPutUp_47
theorem vX0_isTurnOfNew_0 : mStepO h k cX0_isTurnOfNew bl Q Y (0, lv, st, σ) = (mLdA Y 1 lv st σ 0) := mStep_d dX0_isTurnOfNew_0
theorem vX0_isTurnOfNew_1 : mStepO h k cX0_isTurnOfNew bl Q Y (1, lv, st, σ) = (mGet h k Y 4 lv st σ 18) := mStep_d dX0_isTurnOfNew_1
theorem vX0_isTurnOfNew_4 : mStepO h k cX0_isTurnOfNew bl Q Y (4, lv, st, σ) = (Y (5, lv, .int (2) :: st, σ)) := by rw [mStep_d dX0_isTurnOfNew_4, ← mx_c2]; rfl
theorem vX0_isTurnOfNew_5 : mStepO h k cX0_isTurnOfNew bl Q Y (5, lv, st, σ) = (mLdE h Y 6 lv st σ) := mStep_d dX0_isTurnOfNew_5
theorem vX0_isTurnOfNew_6 : mStepO h k cX0_isTurnOfNew bl Q Y (6, lv, st, σ) = (mStI Y 7 lv st σ 2) := mStep_d dX0_isTurnOfNew_6
theorem vX0_isTurnOfNew_7 : mStepO h k cX0_isTurnOfNew bl Q Y (7, lv, st, σ) = (mLdI Y 8 lv st σ 2) := mStep_d dX0_isTurnOfNew_7
theorem vX0_isTurnOfNew_8 : mStepO h k cX0_isTurnOfNew bl Q Y (8, lv, st, σ) = (mJ1 Y 28 11 lv st σ (fun x => x ≤ 0)) := (mStep_d dX0_isTurnOfNew_8).trans (mIf1_J jt_8_20 jp_8_20)
theorem vX0_isTurnOfNew_11 : mStepO h k cX0_isTurnOfNew bl Q Y (11, lv, st, σ) = (mLdA Y 12 lv st σ 0) := mStep_d dX0_isTurnOfNew_11
theorem vX0_isTurnOfNew_12 : mStepO h k cX0_isTurnOfNew bl Q Y (12, lv, st, σ) = (mGet h k Y 15 lv st σ 39) := mStep_d dX0_isTurnOfNew_12
theorem vX0_isTurnOfNew_15 : mStepO h k cX0_isTurnOfNew bl Q Y (15, lv, st, σ) = (mLdI Y 16 lv st σ 1) := mStep_d dX0_isTurnOfNew_15
theorem vX0_isTurnOfNew_16 : mStepO h k cX0_isTurnOfNew bl Q Y (16, lv, st, σ) = (mLdE h Y 17 lv st σ) := mStep_d dX0_isTurnOfNew_16
theorem vX0_isTurnOfNew_17 : mStepO h k cX0_isTurnOfNew bl Q Y (17, lv, st, σ) = (Y (18, lv, .int (1) :: st, σ)) := by rw [mStep_d dX0_isTurnOfNew_17, ← mx_c1]; rfl
theorem vX0_isTurnOfNew_18 : mStepO h k cX0_isTurnOfNew bl Q Y (18, lv, st, σ) = (mBin Y 19 lv st σ (fun x y => x + y)) := mStep_d dX0_isTurnOfNew_18
theorem vX0_isTurnOfNew_19 : mStepO h k cX0_isTurnOfNew bl Q Y (19, lv, st, σ) = (mLdI Y 20 lv st σ 2) := mStep_d dX0_isTurnOfNew_19
theorem vX0_isTurnOfNew_20 : mStepO h k cX0_isTurnOfNew bl Q Y (20, lv, st, σ) = (mDiv Y 21 lv st σ (fun x y => x - x / y * y)) := mStep_d dX0_isTurnOfNew_20
theorem vX0_isTurnOfNew_21 : mStepO h k cX0_isTurnOfNew bl Q Y (21, lv, st, σ) = (mN1 Y 28 24 lv st σ) := (mStep_d dX0_isTurnOfNew_21).trans (mIfN1_J jt_21_7 jp_21_7)
theorem vX0_isTurnOfNew_24 : mStepO h k cX0_isTurnOfNew bl Q Y (24, lv, st, σ) = (Y (25, lv, .int (1) :: st, σ)) := by rw [mStep_d dX0_isTurnOfNew_24, ← mx_c1]; rfl
theorem vX0_isTurnOfNew_25 : mStepO h k cX0_isTurnOfNew bl Q Y (25, lv, st, σ) = (Y (29, lv, st, σ)) := (mStep_d dX0_isTurnOfNew_25).trans (mJ_J jt_25_4 jp_25_4)
theorem vX0_isTurnOfNew_28 : mStepO h k cX0_isTurnOfNew bl Q Y (28, lv, st, σ) = (Y (29, lv, .int (0) :: st, σ)) := by rw [mStep_d dX0_isTurnOfNew_28, ← mx_c0]; rfl
theorem vX0_isTurnOfNew_29 : mStepO h k cX0_isTurnOfNew bl Q Y (29, lv, st, σ) = (mRetI bl Q st σ) := mStep_d dX0_isTurnOfNew_29
theorem vX0_keepsRules_0 : mStepO h k cX0_keepsRules bl Q Y (0, lv, st, σ) = (Y (1, lv, .int (0) :: st, σ)) := by rw [mStep_d dX0_keepsRules_0, ← mx_c0]; rfl
theorem vX0_keepsRules_1 : mStepO h k cX0_keepsRules bl Q Y (1, lv, st, σ) = (mStI Y 2 lv st σ 2) := mStep_d dX0_keepsRules_1
theorem vX0_keepsRules_2 : mStepO h k cX0_keepsRules bl Q Y (2, lv, st, σ) = (mLdI Y 3 lv st σ 2) := mStep_d dX0_keepsRules_2
theorem vX0_keepsRules_3 : mStepO h k cX0_keepsRules bl Q Y (3, lv, st, σ) = (Y (4, lv, .int (4) :: st, σ)) := by rw [mStep_d dX0_keepsRules_3, ← mx_c4]; rfl
theorem vX0_keepsRules_4 : mStepO h k cX0_keepsRules bl Q Y (4, lv, st, σ) = (mJ2 Y 35 7 lv st σ (fun x y => y ≤ x)) := (mStep_d dX0_keepsRules_4).trans (mIf2_J jt_4_31 jp_4_31)
theorem vX0_keepsRules_7 : mStepO h k cX0_keepsRules bl Q Y (7, lv, st, σ) = (mLdI Y 8 lv st σ 1) := mStep_d dX0_keepsRules_7
theorem vX0_keepsRules_8 : mStepO h k cX0_keepsRules bl Q Y (8, lv, st, σ) = (mLdA Y 9 lv st σ 0) := mStep_d dX0_keepsRules_8
theorem vX0_keepsRules_9 : mStepO h k cX0_keepsRules bl Q Y (9, lv, st, σ) = (mGet h k Y 12 lv st σ 24) := mStep_d dX0_keepsRules_9
theorem vX0_keepsRules_12 : mStepO h k cX0_keepsRules bl Q Y (12, lv, st, σ) = (mLdI Y 13 lv st σ 2) := mStep_d dX0_keepsRules_12
theorem vX0_keepsRules_13 : mStepO h k cX0_keepsRules bl Q Y (13, lv, st, σ) = (mLdE h Y 14 lv st σ) := mStep_d dX0_keepsRules_13
theorem vX0_keepsRules_14 : mStepO h k cX0_keepsRules bl Q Y (14, lv, st, σ) = (mBin Y 15 lv st σ (fun x y => x &&& y)) := mStep_d dX0_keepsRules_14
theorem vX0_keepsRules_15 : mStepO h k cX0_keepsRules bl Q Y (15, lv, st, σ) = (mCaS k Y 18 lv st σ 149) := mStep_d dX0_keepsRules_15
theorem vX0_keepsRules_18 : mStepO h k cX0_keepsRules bl Q Y (18, lv, st, σ) = (mLdA Y 19 lv st σ 0) := mStep_d dX0_keepsRules_18
theorem vX0_keepsRules_19 : mStepO h k cX0_keepsRules bl Q Y (19, lv, st, σ) = (mGet h k Y 22 lv st σ 18) := mStep_d dX0_keepsRules_19
theorem vX0_keepsRules_22 : mStepO h k cX0_keepsRules bl Q Y (22, lv, st, σ) = (Y (23, lv, .int (1) :: st, σ)) := by rw [mStep_d dX0_keepsRules_22, ← mx_c1]; rfl
theorem vX0_keepsRules_23 : mStepO h k cX0_keepsRules bl Q Y (23, lv, st, σ) = (mLdE h Y 24 lv st σ) := mStep_d dX0_keepsRules_23
theorem vX0_keepsRules_24 : mStepO h k cX0_keepsRules bl Q Y (24, lv, st, σ) = (mJ2 Y 29 27 lv st σ (fun x y => x ≤ y)) := (mStep_d dX0_keepsRules_24).trans (mIf2_J jt_24_5 jp_24_5)
theorem vX0_keepsRules_27 : mStepO h k cX0_keepsRules bl Q Y (27, lv, st, σ) = (Y (28, lv, .int (0) :: st, σ)) := by rw [mStep_d dX0_keepsRules_27, ← mx_c0]; rfl
theorem vX0_keepsRules_28 : mStepO h k cX0_keepsRules bl Q Y (28, lv, st, σ) = (mRetI bl Q st σ) := mStep_d dX0_keepsRules_28
theorem vX0_keepsRules_29 : mStepO h k cX0_keepsRules bl Q Y (29, lv, st, σ) = (mInc Y 32 lv st σ 2 (1)) := by rw [mStep_d dX0_keepsRules_29, ← mx_c1]; rfl
theorem vX0_keepsRules_32 : mStepO h k cX0_keepsRules bl Q Y (32, lv, st, σ) = (Y (2, lv, st, σ)) := (mStep_d dX0_keepsRules_32).trans (mJ_J jt_32_m30 jp_32_m30)
theorem vX0_keepsRules_35 : mStepO h k cX0_keepsRules bl Q Y (35, lv, st, σ) = (Y (36, lv, .int (0) :: st, σ)) := by rw [mStep_d dX0_keepsRules_35, ← mx_c0]; rfl
theorem vX0_keepsRules_36 : mStepO h k cX0_keepsRules bl Q Y (36, lv, st, σ) = (mStI Y 37 lv st σ 2) := mStep_d dX0_keepsRules_36
theorem vX0_keepsRules_37 : mStepO h k cX0_keepsRules bl Q Y (37, lv, st, σ) = (mLdI Y 38 lv st σ 2) := mStep_d dX0_keepsRules_37
theorem vX0_keepsRules_38 : mStepO h k cX0_keepsRules bl Q Y (38, lv, st, σ) = (mLdA Y 39 lv st σ 0) := mStep_d dX0_keepsRules_38
theorem vX0_keepsRules_39 : mStepO h k cX0_keepsRules bl Q Y (39, lv, st, σ) = (mGet h k Y 42 lv st σ 53) := mStep_d dX0_keepsRules_39
theorem vX0_keepsRules_42 : mStepO h k cX0_keepsRules bl Q Y (42, lv, st, σ) = (mJ2 Y 72 45 lv st σ (fun x y => y ≤ x)) := (mStep_d dX0_keepsRules_42).trans (mIf2_J jt_42_30 jp_42_30)
theorem vX0_keepsRules_45 : mStepO h k cX0_keepsRules bl Q Y (45, lv, st, σ) = (mLdI Y 46 lv st σ 1) := mStep_d dX0_keepsRules_45
theorem vX0_keepsRules_46 : mStepO h k cX0_keepsRules bl Q Y (46, lv, st, σ) = (mLdI Y 47 lv st σ 2) := mStep_d dX0_keepsRules_46
theorem vX0_keepsRules_47 : mStepO h k cX0_keepsRules bl Q Y (47, lv, st, σ) = (mCaS k Y 50 lv st σ 67) := mStep_d dX0_keepsRules_47
theorem vX0_keepsRules_50 : mStepO h k cX0_keepsRules bl Q Y (50, lv, st, σ) = (mJ1 Y 66 53 lv st σ (fun x => x = 0)) := (mStep_d dX0_keepsRules_50).trans (mIf1_J jt_50_16 jp_50_16)
theorem vX0_keepsRules_53 : mStepO h k cX0_keepsRules bl Q Y (53, lv, st, σ) = (mLdI Y 54 lv st σ 1) := mStep_d dX0_keepsRules_53
theorem vX0_keepsRules_54 : mStepO h k cX0_keepsRules bl Q Y (54, lv, st, σ) = (mLdA Y 55 lv st σ 0) := mStep_d dX0_keepsRules_54
theorem vX0_keepsRules_55 : mStepO h k cX0_keepsRules bl Q Y (55, lv, st, σ) = (mGet h k Y 58 lv st σ 27) := mStep_d dX0_keepsRules_55
theorem vX0_keepsRules_58 : mStepO h k cX0_keepsRules bl Q Y (58, lv, st, σ) = (mLdI Y 59 lv st σ 2) := mStep_d dX0_keepsRules_58
theorem vX0_keepsRules_59 : mStepO h k cX0_keepsRules bl Q Y (59, lv, st, σ) = (mLdE h Y 60 lv st σ) := mStep_d dX0_keepsRules_59
theorem vX0_keepsRules_60 : mStepO h k cX0_keepsRules bl Q Y (60, lv, st, σ) = (mBin Y 61 lv st σ (fun x y => x &&& y)) := mStep_d dX0_keepsRules_60
theorem vX0_keepsRules_61 : mStepO h k cX0_keepsRules bl Q Y (61, lv, st, σ) = (mJ1 Y 66 64 lv st σ (fun x => x = 0)) := (mStep_d dX0_keepsRules_61).trans (mIf1_J jt_61_5 jp_61_5)
theorem vX0_keepsRules_64 : mStepO h k cX0_keepsRules bl Q Y (64, lv, st, σ) = (Y (65, lv, .int (0) :: st, σ)) := by rw [mStep_d dX0_keepsRules_64, ← mx_c0]; rfl
theorem vX0_keepsRules_65 : mStepO h k cX0_keepsRules bl Q Y (65, lv, st, σ) = (mRetI bl Q st σ) := mStep_d dX0_keepsRules_65
theorem vX0_keepsRules_66 : mStepO h k cX0_keepsRules bl Q Y (66, lv, st, σ) = (mInc Y 69 lv st σ 2 (1)) := by rw [mStep_d dX0_keepsRules_66, ← mx_c1]; rfl
theorem vX0_keepsRules_69 : mStepO h k cX0_keepsRules bl Q Y (69, lv, st, σ) = (Y (37, lv, st, σ)) := (mStep_d dX0_keepsRules_69).trans (mJ_J jt_69_m32 jp_69_m32)
theorem vX0_keepsRules_72 : mStepO h k cX0_keepsRules bl Q Y (72, lv, st, σ) = (Y (73, lv, .int (1) :: st, σ)) := by rw [mStep_d dX0_keepsRules_72, ← mx_c1]; rfl
theorem vX0_keepsRules_73 : mStepO h k cX0_keepsRules bl Q Y (73, lv, st, σ) = (mRetI bl Q st σ) := mStep_d dX0_keepsRules_73
theorem vX0_bestList_0 : mStepO h k cX0_bestList bl Q Y (0, lv, st, σ) = (mLdA Y 1 lv st σ 0) := mStep_d dX0_bestList_0
theorem vX0_bestList_1 : mStepO h k cX0_bestList bl Q Y (1, lv, st, σ) = (mLdI Y 2 lv st σ 1) := mStep_d dX0_bestList_1
theorem vX0_bestList_2 : mStepO h k cX0_bestList bl Q Y (2, lv, st, σ) = (mCaV k Y 5 lv st σ 131) := mStep_d dX0_bestList_2
theorem vX0_bestList_5 : mStepO h k cX0_bestList bl Q Y (5, lv, st, σ) = (mStI Y 6 lv st σ 3) := mStep_d dX0_bestList_5
theorem vX0_bestList_6 : mStepO h k cX0_bestList bl Q Y (6, lv, st, σ) = (mLdA Y 7 lv st σ 0) := mStep_d dX0_bestList_6
theorem vX0_bestList_7 : mStepO h k cX0_bestList bl Q Y (7, lv, st, σ) = (mLdI Y 8 lv st σ 1) := mStep_d dX0_bestList_7
theorem vX0_bestList_8 : mStepO h k cX0_bestList bl Q Y (8, lv, st, σ) = (mCaV k Y 11 lv st σ 154) := mStep_d dX0_bestList_8
theorem vX0_bestList_11 : mStepO h k cX0_bestList bl Q Y (11, lv, st, σ) = (mJ1 Y 23 14 lv st σ (fun x => x = 0)) := (mStep_d dX0_bestList_11).trans (mIf1_J jt_11_12 jp_11_12)
theorem vX0_bestList_14 : mStepO h k cX0_bestList bl Q Y (14, lv, st, σ) = (mLdI Y 15 lv st σ 3) := mStep_d dX0_bestList_14
theorem vX0_bestList_15 : mStepO h k cX0_bestList bl Q Y (15, lv, st, σ) = (mLdA Y 16 lv st σ 0) := mStep_d dX0_bestList_15
theorem vX0_bestList_16 : mStepO h k cX0_bestList bl Q Y (16, lv, st, σ) = (mCaV k Y 19 lv st σ 104) := mStep_d dX0_bestList_16
theorem vX0_bestList_19 : mStepO h k cX0_bestList bl Q Y (19, lv, st, σ) = (mBin Y 20 lv st σ (fun x y => x &&& y)) := mStep_d dX0_bestList_19
theorem vX0_bestList_20 : mStepO h k cX0_bestList bl Q Y (20, lv, st, σ) = (Y (24, lv, st, σ)) := (mStep_d dX0_bestList_20).trans (mJ_J jt_20_4 jp_20_4)
theorem vX0_bestList_23 : mStepO h k cX0_bestList bl Q Y (23, lv, st, σ) = (Y (24, lv, .int (0) :: st, σ)) := by rw [mStep_d dX0_bestList_23, ← mx_c0]; rfl
theorem vX0_bestList_24 : mStepO h k cX0_bestList bl Q Y (24, lv, st, σ) = (mStI Y 26 lv st σ 4) := mStep_d dX0_bestList_24
theorem vX0_bestList_26 : mStepO h k cX0_bestList bl Q Y (26, lv, st, σ) = (mLdA Y 27 lv st σ 0) := mStep_d dX0_bestList_26
theorem vX0_bestList_27 : mStepO h k cX0_bestList bl Q Y (27, lv, st, σ) = (mLdI Y 28 lv st σ 1) := mStep_d dX0_bestList_27
theorem vX0_bestList_28 : mStepO h k cX0_bestList bl Q Y (28, lv, st, σ) = (mLdI Y 29 lv st σ 3) := mStep_d dX0_bestList_28
theorem vX0_bestList_29 : mStepO h k cX0_bestList bl Q Y (29, lv, st, σ) = (mCaV k Y 32 lv st σ 157) := mStep_d dX0_bestList_29
theorem vX0_bestList_32 : mStepO h k cX0_bestList bl Q Y (32, lv, st, σ) = (Y (33, lv, .int (0) :: st, σ)) := by rw [mStep_d dX0_bestList_32, ← mx_c0]; rfl
theorem vX0_bestList_33 : mStepO h k cX0_bestList bl Q Y (33, lv, st, σ) = (mStI Y 35 lv st σ 5) := mStep_d dX0_bestList_33
theorem vX0_bestList_35 : mStepO h k cX0_bestList bl Q Y (35, lv, st, σ) = (Y (36, lv, .int (0) :: st, σ)) := by rw [mStep_d dX0_bestList_35, ← mx_c0]; rfl
theorem vX0_bestList_36 : mStepO h k cX0_bestList bl Q Y (36, lv, st, σ) = (mStI Y 38 lv st σ 6) := mStep_d dX0_bestList_36
theorem vX0_bestList_38 : mStepO h k cX0_bestList bl Q Y (38, lv, st, σ) = (Y (39, lv, .int (0) :: st, σ)) := by rw [mStep_d dX0_bestList_38, ← mx_c0]; rfl
theorem vX0_bestList_39 : mStepO h k cX0_bestList bl Q Y (39, lv, st, σ) = (mStI Y 41 lv st σ 7) := mStep_d dX0_bestList_39
theorem vX0_bestList_41 : mStepO h k cX0_bestList bl Q Y (41, lv, st, σ) = (Y (42, lv, .int (0) :: st, σ)) := by rw [mStep_d dX0_bestList_41, ← mx_c0]; rfl
theorem vX0_bestList_42 : mStepO h k cX0_bestList bl Q Y (42, lv, st, σ) = (mStI Y 44 lv st σ 8) := mStep_d dX0_bestList_42
theorem vX0_bestList_44 : mStepO h k cX0_bestList bl Q Y (44, lv, st, σ) = (Y (45, lv, .int (1) :: st, σ)) := by rw [mStep_d dX0_bestList_44, ← mx_c1]; rfl
theorem vX0_bestList_45 : mStepO h k cX0_bestList bl Q Y (45, lv, st, σ) = (mLdI Y 46 lv st σ 3) := mStep_d dX0_bestList_45
theorem vX0_bestList_46 : mStepO h k cX0_bestList bl Q Y (46, lv, st, σ) = (mCaS k Y 49 lv st σ 149) := mStep_d dX0_bestList_46
theorem vX0_bestList_49 : mStepO h k cX0_bestList bl Q Y (49, lv, st, σ) = (mBin Y 50 lv st σ (fun x y => x <<< (y &&& 31))) := mStep_d dX0_bestList_49
theorem vX0_bestList_50 : mStepO h k cX0_bestList bl Q Y (50, lv, st, σ) = (mStI Y 52 lv st σ 9) := mStep_d dX0_bestList_50
theorem vX0_bestList_52 : mStepO h k cX0_bestList bl Q Y (52, lv, st, σ) = (Y (53, lv, .int (1) :: st, σ)) := by rw [mStep_d dX0_bestList_52, ← mx_c1]; rfl
theorem vX0_bestList_53 : mStepO h k cX0_bestList bl Q Y (53, lv, st, σ) = (mStI Y 55 lv st σ 10) := mStep_d dX0_bestList_53
theorem vX0_bestList_55 : mStepO h k cX0_bestList bl Q Y (55, lv, st, σ) = (mLdI Y 57 lv st σ 10) := mStep_d dX0_bestList_55
theorem vX0_bestList_57 : mStepO h k cX0_bestList bl Q Y (57, lv, st, σ) = (mLdI Y 59 lv st σ 9) := mStep_d dX0_bestList_57
theorem vX0_bestList_59 : mStepO h k cX0_bestList bl Q Y (59, lv, st, σ) = (mJ2 Y 164 62 lv st σ (fun x y => y ≤ x)) := (mStep_d dX0_bestList_59).trans (mIf2_J jt_59_105 jp_59_105)
theorem vX0_bestList_62 : mStepO h k cX0_bestList bl Q Y (62, lv, st, σ) = (mLdI Y 64 lv st σ 8) := mStep_d dX0_bestList_62
theorem vX0_bestList_64 : mStepO h k cX0_bestList bl Q Y (64, lv, st, σ) = (mLdI Y 65 lv st σ 3) := mStep_d dX0_bestList_64
theorem vX0_bestList_65 : mStepO h k cX0_bestList bl Q Y (65, lv, st, σ) = (mBin Y 66 lv st σ (fun x y => x - y)) := mStep_d dX0_bestList_65
theorem vX0_bestList_66 : mStepO h k cX0_bestList bl Q Y (66, lv, st, σ) = (mLdI Y 67 lv st σ 3) := mStep_d dX0_bestList_66
theorem vX0_bestList_67 : mStepO h k cX0_bestList bl Q Y (67, lv, st, σ) = (mBin Y 68 lv st σ (fun x y => x &&& y)) := mStep_d dX0_bestList_67
theorem vX0_bestList_68 : mStepO h k cX0_bestList bl Q Y (68, lv, st, σ) = (mStI Y 70 lv st σ 8) := mStep_d dX0_bestList_68
theorem vX0_bestList_70 : mStepO h k cX0_bestList bl Q Y (70, lv, st, σ) = (mLdI Y 72 lv st σ 8) := mStep_d dX0_bestList_70
theorem vX0_bestList_72 : mStepO h k cX0_bestList bl Q Y (72, lv, st, σ) = (mCaS k Y 75 lv st σ 149) := mStep_d dX0_bestList_72
theorem vX0_bestList_75 : mStepO h k cX0_bestList bl Q Y (75, lv, st, σ) = (mStI Y 77 lv st σ 11) := mStep_d dX0_bestList_75
theorem vX0_bestList_77 : mStepO h k cX0_bestList bl Q Y (77, lv, st, σ) = (mLdI Y 79 lv st σ 11) := mStep_d dX0_bestList_77
theorem vX0_bestList_79 : mStepO h k cX0_bestList bl Q Y (79, lv, st, σ) = (mLdI Y 80 lv st σ 2) := mStep_d dX0_bestList_79
theorem vX0_bestList_80 : mStepO h k cX0_bestList bl Q Y (80, lv, st, σ) = (mJ2 Y 107 83 lv st σ (fun x y => y < x)) := (mStep_d dX0_bestList_80).trans (mIf2_J jt_80_27 jp_80_27)
theorem vX0_bestList_83 : mStepO h k cX0_bestList bl Q Y (83, lv, st, σ) = (mLdI Y 85 lv st σ 11) := mStep_d dX0_bestList_83
theorem vX0_bestList_85 : mStepO h k cX0_bestList bl Q Y (85, lv, st, σ) = (mLdI Y 87 lv st σ 6) := mStep_d dX0_bestList_85
theorem vX0_bestList_87 : mStepO h k cX0_bestList bl Q Y (87, lv, st, σ) = (mJ2 Y 107 90 lv st σ (fun x y => x < y)) := (mStep_d dX0_bestList_87).trans (mIf2_J jt_87_20 jp_87_20)
theorem vX0_bestList_90 : mStepO h k cX0_bestList bl Q Y (90, lv, st, σ) = (mLdI Y 92 lv st σ 4) := mStep_d dX0_bestList_90
theorem vX0_bestList_92 : mStepO h k cX0_bestList bl Q Y (92, lv, st, σ) = (mJ1 Y 103 95 lv st σ (fun x => x = 0)) := (mStep_d dX0_bestList_92).trans (mIf1_J jt_92_11 jp_92_11)
theorem vX0_bestList_95 : mStepO h k cX0_bestList bl Q Y (95, lv, st, σ) = (mLdI Y 97 lv st σ 8) := mStep_d dX0_bestList_95
theorem vX0_bestList_97 : mStepO h k cX0_bestList bl Q Y (97, lv, st, σ) = (mLdI Y 99 lv st σ 4) := mStep_d dX0_bestList_97
theorem vX0_bestList_99 : mStepO h k cX0_bestList bl Q Y (99, lv, st, σ) = (mBin Y 100 lv st σ (fun x y => x &&& y)) := mStep_d dX0_bestList_99
theorem vX0_bestList_100 : mStepO h k cX0_bestList bl Q Y (100, lv, st, σ) = (mJ1 Y 107 103 lv st σ (fun x => x = 0)) := (mStep_d dX0_bestList_100).trans (mIf1_J jt_100_7 jp_100_7)
theorem vX0_bestList_103 : mStepO h k cX0_bestList bl Q Y (103, lv, st, σ) = (Y (104, lv, .int (1) :: st, σ)) := by rw [mStep_d dX0_bestList_103, ← mx_c1]; rfl
theorem vX0_bestList_104 : mStepO h k cX0_bestList bl Q Y (104, lv, st, σ) = (Y (108, lv, st, σ)) := (mStep_d dX0_bestList_104).trans (mJ_J jt_104_4 jp_104_4)
theorem vX0_bestList_107 : mStepO h k cX0_bestList bl Q Y (107, lv, st, σ) = (Y (108, lv, .int (0) :: st, σ)) := by rw [mStep_d dX0_bestList_107, ← mx_c0]; rfl
theorem vX0_bestList_108 : mStepO h k cX0_bestList bl Q Y (108, lv, st, σ) = (mStI Y 110 lv st σ 12) := mStep_d dX0_bestList_108
theorem vX0_bestList_110 : mStepO h k cX0_bestList bl Q Y (110, lv, st, σ) = (mLdI Y 112 lv st σ 12) := mStep_d dX0_bestList_110
theorem vX0_bestList_112 : mStepO h k cX0_bestList bl Q Y (112, lv, st, σ) = (mJ1 Y 158 115 lv st σ (fun x => x = 0)) := (mStep_d dX0_bestList_112).trans (mIf1_J jt_112_46 jp_112_46)
theorem vX0_bestList_115 : mStepO h k cX0_bestList bl Q Y (115, lv, st, σ) = (mLdA Y 116 lv st σ 0) := mStep_d dX0_bestList_115
theorem vX0_bestList_116 : mStepO h k cX0_bestList bl Q Y (116, lv, st, σ) = (mLdI Y 118 lv st σ 8) := mStep_d dX0_bestList_116
theorem vX0_bestList_118 : mStepO h k cX0_bestList bl Q Y (118, lv, st, σ) = (mCaV k Y 121 lv st σ 160) := mStep_d dX0_bestList_118
theorem vX0_bestList_121 : mStepO h k cX0_bestList bl Q Y (121, lv, st, σ) = (mJ1 Y 158 124 lv st σ (fun x => x = 0)) := (mStep_d dX0_bestList_121).trans (mIf1_J jt_121_37 jp_121_37)
theorem vX0_bestList_124 : mStepO h k cX0_bestList bl Q Y (124, lv, st, σ) = (mLdA Y 125 lv st σ 0) := mStep_d dX0_bestList_124
theorem vX0_bestList_125 : mStepO h k cX0_bestList bl Q Y (125, lv, st, σ) = (mLdI Y 127 lv st σ 8) := mStep_d dX0_bestList_125
theorem vX0_bestList_127 : mStepO h k cX0_bestList bl Q Y (127, lv, st, σ) = (mCaV k Y 130 lv st σ 140) := mStep_d dX0_bestList_127
theorem vX0_bestList_130 : mStepO h k cX0_bestList bl Q Y (130, lv, st, σ) = (mStI Y 132 lv st σ 13) := mStep_d dX0_bestList_130
theorem vX0_bestList_132 : mStepO h k cX0_bestList bl Q Y (132, lv, st, σ) = (mLdI Y 134 lv st σ 11) := mStep_d dX0_bestList_132
theorem vX0_bestList_134 : mStepO h k cX0_bestList bl Q Y (134, lv, st, σ) = (mLdI Y 136 lv st σ 6) := mStep_d dX0_bestList_134
theorem vX0_bestList_136 : mStepO h k cX0_bestList bl Q Y (136, lv, st, σ) = (mJ2 Y 146 139 lv st σ (fun x y => y < x)) := (mStep_d dX0_bestList_136).trans (mIf2_J jt_136_10 jp_136_10)
theorem vX0_bestList_139 : mStepO h k cX0_bestList bl Q Y (139, lv, st, σ) = (mLdI Y 141 lv st σ 13) := mStep_d dX0_bestList_139
theorem vX0_bestList_141 : mStepO h k cX0_bestList bl Q Y (141, lv, st, σ) = (mLdI Y 143 lv st σ 7) := mStep_d dX0_bestList_141
theorem vX0_bestList_143 : mStepO h k cX0_bestList bl Q Y (143, lv, st, σ) = (mJ2 Y 158 146 lv st σ (fun x y => x ≤ y)) := (mStep_d dX0_bestList_143).trans (mIf2_J jt_143_15 jp_143_15)
theorem vX0_bestList_146 : mStepO h k cX0_bestList bl Q Y (146, lv, st, σ) = (mLdI Y 148 lv st σ 8) := mStep_d dX0_bestList_146
theorem vX0_bestList_148 : mStepO h k cX0_bestList bl Q Y (148, lv, st, σ) = (mStI Y 150 lv st σ 5) := mStep_d dX0_bestList_148
theorem vX0_bestList_150 : mStepO h k cX0_bestList bl Q Y (150, lv, st, σ) = (mLdI Y 152 lv st σ 11) := mStep_d dX0_bestList_150
theorem vX0_bestList_152 : mStepO h k cX0_bestList bl Q Y (152, lv, st, σ) = (mStI Y 154 lv st σ 6) := mStep_d dX0_bestList_152
theorem vX0_bestList_154 : mStepO h k cX0_bestList bl Q Y (154, lv, st, σ) = (mLdI Y 156 lv st σ 13) := mStep_d dX0_bestList_154
theorem vX0_bestList_156 : mStepO h k cX0_bestList bl Q Y (156, lv, st, σ) = (mStI Y 158 lv st σ 7) := mStep_d dX0_bestList_156
theorem vX0_bestList_158 : mStepO h k cX0_bestList bl Q Y (158, lv, st, σ) = (mInc Y 161 lv st σ 10 (1)) := by rw [mStep_d dX0_bestList_158, ← mx_c1]; rfl
theorem vX0_bestList_161 : mStepO h k cX0_bestList bl Q Y (161, lv, st, σ) = (Y (55, lv, st, σ)) := (mStep_d dX0_bestList_161).trans (mJ_J jt_161_m106 jp_161_m106)
theorem vX0_bestList_164 : mStepO h k cX0_bestList bl Q Y (164, lv, st, σ) = (mLdI Y 166 lv st σ 5) := mStep_d dX0_bestList_164
theorem vX0_bestList_166 : mStepO h k cX0_bestList bl Q Y (166, lv, st, σ) = (mRetI bl Q st σ) := mStep_d dX0_bestList_166
theorem vX0_daysTired_0 : mStepO h k cX0_daysTired bl Q Y (0, lv, st, σ) = (Y (1, lv, .int (0) :: st, σ)) := by rw [mStep_d dX0_daysTired_0, ← mx_c0]; rfl
theorem vX0_daysTired_1 : mStepO h k cX0_daysTired bl Q Y (1, lv, st, σ) = (mLdA Y 2 lv st σ 0) := mStep_d dX0_daysTired_1
theorem vX0_daysTired_2 : mStepO h k cX0_daysTired bl Q Y (2, lv, st, σ) = (mGet h k Y 5 lv st σ 47) := mStep_d dX0_daysTired_2
theorem vX0_daysTired_5 : mStepO h k cX0_daysTired bl Q Y (5, lv, st, σ) = (mLdI Y 6 lv st σ 1) := mStep_d dX0_daysTired_5
theorem vX0_daysTired_6 : mStepO h k cX0_daysTired bl Q Y (6, lv, st, σ) = (mLdR h Y 7 lv st σ) := mStep_d dX0_daysTired_6
theorem vX0_daysTired_7 : mStepO h k cX0_daysTired bl Q Y (7, lv, st, σ) = (mLdI Y 8 lv st σ 2) := mStep_d dX0_daysTired_7
theorem vX0_daysTired_8 : mStepO h k cX0_daysTired bl Q Y (8, lv, st, σ) = (mLdE h Y 9 lv st σ) := mStep_d dX0_daysTired_8
theorem vX0_daysTired_9 : mStepO h k cX0_daysTired bl Q Y (9, lv, st, σ) = (mLdA Y 10 lv st σ 0) := mStep_d dX0_daysTired_9
theorem vX0_daysTired_10 : mStepO h k cX0_daysTired bl Q Y (10, lv, st, σ) = (mGet h k Y 13 lv st σ 57) := mStep_d dX0_daysTired_10
theorem vX0_daysTired_13 : mStepO h k cX0_daysTired bl Q Y (13, lv, st, σ) = (mBin Y 14 lv st σ (fun x y => x - y)) := mStep_d dX0_daysTired_13
theorem vX0_daysTired_14 : mStepO h k cX0_daysTired bl Q Y (14, lv, st, σ) = (mCaS k Y 17 lv st σ 163) := mStep_d dX0_daysTired_14
theorem vX0_daysTired_17 : mStepO h k cX0_daysTired bl Q Y (17, lv, st, σ) = (mRetI bl Q st σ) := mStep_d dX0_daysTired_17
theorem vX0_showOnce_0 : mStepO h k cX0_showOnce bl Q Y (0, lv, st, σ) = (mLdA Y 1 lv st σ 0) := mStep_d dX0_showOnce_0
theorem vX0_showOnce_1 : mStepO h k cX0_showOnce bl Q Y (1, lv, st, σ) = (mGet h k Y 4 lv st σ 44) := mStep_d dX0_showOnce_1
theorem vX0_showOnce_4 : mStepO h k cX0_showOnce bl Q Y (4, lv, st, σ) = (mLdI Y 5 lv st σ 1) := mStep_d dX0_showOnce_4
theorem vX0_showOnce_5 : mStepO h k cX0_showOnce bl Q Y (5, lv, st, σ) = (mLdR h Y 6 lv st σ) := mStep_d dX0_showOnce_5
theorem vX0_showOnce_6 : mStepO h k cX0_showOnce bl Q Y (6, lv, st, σ) = (mLdI Y 7 lv st σ 2) := mStep_d dX0_showOnce_6
theorem vX0_showOnce_7 : mStepO h k cX0_showOnce bl Q Y (7, lv, st, σ) = (mDup2 Y 8 lv st σ) := mStep_d dX0_showOnce_7
theorem vX0_showOnce_8 : mStepO h k cX0_showOnce bl Q Y (8, lv, st, σ) = (mLdE h Y 9 lv st σ) := mStep_d dX0_showOnce_8
theorem vX0_showOnce_9 : mStepO h k cX0_showOnce bl Q Y (9, lv, st, σ) = (Y (10, lv, .int (1) :: st, σ)) := by rw [mStep_d dX0_showOnce_9, ← mx_c1]; rfl
theorem vX0_showOnce_10 : mStepO h k cX0_showOnce bl Q Y (10, lv, st, σ) = (mBin Y 11 lv st σ (fun x y => x + y)) := mStep_d dX0_showOnce_10
theorem vX0_showOnce_11 : mStepO h k cX0_showOnce bl Q Y (11, lv, st, σ) = (mStE h Y 12 lv st σ) := mStep_d dX0_showOnce_11
theorem vX0_showOnce_12 : mStepO h k cX0_showOnce bl Q Y (12, lv, st, σ) = (mLdA Y 13 lv st σ 0) := mStep_d dX0_showOnce_12
theorem vX0_showOnce_13 : mStepO h k cX0_showOnce bl Q Y (13, lv, st, σ) = (mGet h k Y 16 lv st σ 44) := mStep_d dX0_showOnce_13
theorem vX0_showOnce_16 : mStepO h k cX0_showOnce bl Q Y (16, lv, st, σ) = (mLdI Y 17 lv st σ 1) := mStep_d dX0_showOnce_16
theorem vX0_showOnce_17 : mStepO h k cX0_showOnce bl Q Y (17, lv, st, σ) = (mLdR h Y 18 lv st σ) := mStep_d dX0_showOnce_17
theorem vX0_showOnce_18 : mStepO h k cX0_showOnce bl Q Y (18, lv, st, σ) = (mLdI Y 19 lv st σ 2) := mStep_d dX0_showOnce_18
theorem vX0_showOnce_19 : mStepO h k cX0_showOnce bl Q Y (19, lv, st, σ) = (mLdE h Y 20 lv st σ) := mStep_d dX0_showOnce_19
theorem vX0_showOnce_20 : mStepO h k cX0_showOnce bl Q Y (20, lv, st, σ) = (mLdA Y 21 lv st σ 0) := mStep_d dX0_showOnce_20
theorem vX0_showOnce_21 : mStepO h k cX0_showOnce bl Q Y (21, lv, st, σ) = (mGet h k Y 24 lv st σ 18) := mStep_d dX0_showOnce_21
theorem vX0_showOnce_24 : mStepO h k cX0_showOnce bl Q Y (24, lv, st, σ) = (Y (25, lv, .int (3) :: st, σ)) := by rw [mStep_d dX0_showOnce_24, ← mx_c3]; rfl
theorem vX0_showOnce_25 : mStepO h k cX0_showOnce bl Q Y (25, lv, st, σ) = (mLdE h Y 26 lv st σ) := mStep_d dX0_showOnce_25
theorem vX0_showOnce_26 : mStepO h k cX0_showOnce bl Q Y (26, lv, st, σ) = (mJ2 Y 53 29 lv st σ (fun x y => x < y)) := (mStep_d dX0_showOnce_26).trans (mIf2_J jt_26_27 jp_26_27)
theorem vX0_showOnce_29 : mStepO h k cX0_showOnce bl Q Y (29, lv, st, σ) = (mLdA Y 30 lv st σ 0) := mStep_d dX0_showOnce_29
theorem vX0_showOnce_30 : mStepO h k cX0_showOnce bl Q Y (30, lv, st, σ) = (mGet h k Y 33 lv st σ 44) := mStep_d dX0_showOnce_30
theorem vX0_showOnce_33 : mStepO h k cX0_showOnce bl Q Y (33, lv, st, σ) = (mLdI Y 34 lv st σ 1) := mStep_d dX0_showOnce_33
theorem vX0_showOnce_34 : mStepO h k cX0_showOnce bl Q Y (34, lv, st, σ) = (mLdR h Y 35 lv st σ) := mStep_d dX0_showOnce_34
theorem vX0_showOnce_35 : mStepO h k cX0_showOnce bl Q Y (35, lv, st, σ) = (mLdI Y 36 lv st σ 2) := mStep_d dX0_showOnce_35
theorem vX0_showOnce_36 : mStepO h k cX0_showOnce bl Q Y (36, lv, st, σ) = (Y (37, lv, .int (0) :: st, σ)) := by rw [mStep_d dX0_showOnce_36, ← mx_c0]; rfl
theorem vX0_showOnce_37 : mStepO h k cX0_showOnce bl Q Y (37, lv, st, σ) = (mStE h Y 38 lv st σ) := mStep_d dX0_showOnce_37
theorem vX0_showOnce_38 : mStepO h k cX0_showOnce bl Q Y (38, lv, st, σ) = (mLdA Y 39 lv st σ 0) := mStep_d dX0_showOnce_38
theorem vX0_showOnce_39 : mStepO h k cX0_showOnce bl Q Y (39, lv, st, σ) = (mGet h k Y 42 lv st σ 47) := mStep_d dX0_showOnce_39
theorem vX0_showOnce_42 : mStepO h k cX0_showOnce bl Q Y (42, lv, st, σ) = (mLdI Y 43 lv st σ 1) := mStep_d dX0_showOnce_42
theorem vX0_showOnce_43 : mStepO h k cX0_showOnce bl Q Y (43, lv, st, σ) = (mLdR h Y 44 lv st σ) := mStep_d dX0_showOnce_43
theorem vX0_showOnce_44 : mStepO h k cX0_showOnce bl Q Y (44, lv, st, σ) = (mLdI Y 45 lv st σ 2) := mStep_d dX0_showOnce_44
theorem vX0_showOnce_45 : mStepO h k cX0_showOnce bl Q Y (45, lv, st, σ) = (mLdA Y 46 lv st σ 0) := mStep_d dX0_showOnce_45
theorem vX0_showOnce_46 : mStepO h k cX0_showOnce bl Q Y (46, lv, st, σ) = (mGet h k Y 49 lv st σ 57) := mStep_d dX0_showOnce_46
theorem vX0_showOnce_49 : mStepO h k cX0_showOnce bl Q Y (49, lv, st, σ) = (Y (51, lv, .int (7) :: st, σ)) := by rw [mStep_d dX0_showOnce_49, ← mx_b7]; rfl
theorem vX0_showOnce_51 : mStepO h k cX0_showOnce bl Q Y (51, lv, st, σ) = (mBin Y 52 lv st σ (fun x y => x + y)) := mStep_d dX0_showOnce_51
theorem vX0_showOnce_52 : mStepO h k cX0_showOnce bl Q Y (52, lv, st, σ) = (mStE h Y 53 lv st σ) := mStep_d dX0_showOnce_52
theorem vX0_showOnce_53 : mStepO h k cX0_showOnce bl Q Y (53, lv, st, σ) = (mRetV bl Q st σ) := mStep_d dX0_showOnce_53
theorem vX0_clearShown_0 : mStepO h k cX0_clearShown bl Q Y (0, lv, st, σ) = (Y (1, lv, .int (0) :: st, σ)) := by rw [mStep_d dX0_clearShown_0, ← mx_c0]; rfl
theorem vX0_clearShown_1 : mStepO h k cX0_clearShown bl Q Y (1, lv, st, σ) = (mStI Y 2 lv st σ 3) := mStep_d dX0_clearShown_1
theorem vX0_clearShown_2 : mStepO h k cX0_clearShown bl Q Y (2, lv, st, σ) = (mLdI Y 3 lv st σ 3) := mStep_d dX0_clearShown_2
theorem vX0_clearShown_3 : mStepO h k cX0_clearShown bl Q Y (3, lv, st, σ) = (mLdA Y 4 lv st σ 0) := mStep_d dX0_clearShown_3
theorem vX0_clearShown_4 : mStepO h k cX0_clearShown bl Q Y (4, lv, st, σ) = (mGet h k Y 7 lv st σ 53) := mStep_d dX0_clearShown_4
theorem vX0_clearShown_7 : mStepO h k cX0_clearShown bl Q Y (7, lv, st, σ) = (mJ2 Y 42 10 lv st σ (fun x y => y ≤ x)) := (mStep_d dX0_clearShown_7).trans (mIf2_J jt_7_35 jp_7_35)
theorem vX0_clearShown_10 : mStepO h k cX0_clearShown bl Q Y (10, lv, st, σ) = (mLdI Y 11 lv st σ 2) := mStep_d dX0_clearShown_10
theorem vX0_clearShown_11 : mStepO h k cX0_clearShown bl Q Y (11, lv, st, σ) = (mLdI Y 12 lv st σ 3) := mStep_d dX0_clearShown_11
theorem vX0_clearShown_12 : mStepO h k cX0_clearShown bl Q Y (12, lv, st, σ) = (mCaS k Y 15 lv st σ 67) := mStep_d dX0_clearShown_12
theorem vX0_clearShown_15 : mStepO h k cX0_clearShown bl Q Y (15, lv, st, σ) = (mJ1 Y 36 18 lv st σ (fun x => x = 0)) := (mStep_d dX0_clearShown_15).trans (mIf1_J jt_15_21 jp_15_21)
theorem vX0_clearShown_18 : mStepO h k cX0_clearShown bl Q Y (18, lv, st, σ) = (mLdA Y 19 lv st σ 0) := mStep_d dX0_clearShown_18
theorem vX0_clearShown_19 : mStepO h k cX0_clearShown bl Q Y (19, lv, st, σ) = (mGet h k Y 22 lv st σ 44) := mStep_d dX0_clearShown_19
theorem vX0_clearShown_22 : mStepO h k cX0_clearShown bl Q Y (22, lv, st, σ) = (mLdI Y 23 lv st σ 1) := mStep_d dX0_clearShown_22
theorem vX0_clearShown_23 : mStepO h k cX0_clearShown bl Q Y (23, lv, st, σ) = (mLdR h Y 24 lv st σ) := mStep_d dX0_clearShown_23
theorem vX0_clearShown_24 : mStepO h k cX0_clearShown bl Q Y (24, lv, st, σ) = (mLdI Y 25 lv st σ 3) := mStep_d dX0_clearShown_24
theorem vX0_clearShown_25 : mStepO h k cX0_clearShown bl Q Y (25, lv, st, σ) = (Y (26, lv, .int (0) :: st, σ)) := by rw [mStep_d dX0_clearShown_25, ← mx_c0]; rfl
theorem vX0_clearShown_26 : mStepO h k cX0_clearShown bl Q Y (26, lv, st, σ) = (mStE h Y 27 lv st σ) := mStep_d dX0_clearShown_26
theorem vX0_clearShown_27 : mStepO h k cX0_clearShown bl Q Y (27, lv, st, σ) = (mLdA Y 28 lv st σ 0) := mStep_d dX0_clearShown_27
theorem vX0_clearShown_28 : mStepO h k cX0_clearShown bl Q Y (28, lv, st, σ) = (mGet h k Y 31 lv st σ 47) := mStep_d dX0_clearShown_28
theorem vX0_clearShown_31 : mStepO h k cX0_clearShown bl Q Y (31, lv, st, σ) = (mLdI Y 32 lv st σ 1) := mStep_d dX0_clearShown_31
theorem vX0_clearShown_32 : mStepO h k cX0_clearShown bl Q Y (32, lv, st, σ) = (mLdR h Y 33 lv st σ) := mStep_d dX0_clearShown_32
theorem vX0_clearShown_33 : mStepO h k cX0_clearShown bl Q Y (33, lv, st, σ) = (mLdI Y 34 lv st σ 3) := mStep_d dX0_clearShown_33
theorem vX0_clearShown_34 : mStepO h k cX0_clearShown bl Q Y (34, lv, st, σ) = (Y (35, lv, .int (0) :: st, σ)) := by rw [mStep_d dX0_clearShown_34, ← mx_c0]; rfl
theorem vX0_clearShown_35 : mStepO h k cX0_clearShown bl Q Y (35, lv, st, σ) = (mStE h Y 36 lv st σ) := mStep_d dX0_clearShown_35
theorem vX0_clearShown_36 : mStepO h k cX0_clearShown bl Q Y (36, lv, st, σ) = (mInc Y 39 lv st σ 3 (1)) := by rw [mStep_d dX0_clearShown_36, ← mx_c1]; rfl
theorem vX0_clearShown_39 : mStepO h k cX0_clearShown bl Q Y (39, lv, st, σ) = (Y (2, lv, st, σ)) := (mStep_d dX0_clearShown_39).trans (mJ_J jt_39_m37 jp_39_m37)
theorem vX0_clearShown_42 : mStepO h k cX0_clearShown bl Q Y (42, lv, st, σ) = (mRetV bl Q st σ) := mStep_d dX0_clearShown_42
theorem vJ6_bitCount_0f7a4_0 : mStepO h k cJ6_bitCount_0f7a4 bl Q Y (0, lv, st, σ) = (mLdI Y 1 lv st σ 0) := mStep_d dJ6_bitCount_0f7a4_0
theorem vJ6_bitCount_0f7a4_1 : mStepO h k cJ6_bitCount_0f7a4 bl Q Y (1, lv, st, σ) = (mLdI Y 2 lv st σ 0) := mStep_d dJ6_bitCount_0f7a4_1
theorem vJ6_bitCount_0f7a4_2 : mStepO h k cJ6_bitCount_0f7a4 bl Q Y (2, lv, st, σ) = (Y (3, lv, .int (1) :: st, σ)) := by rw [mStep_d dJ6_bitCount_0f7a4_2, ← mx_c1]; rfl
theorem vJ6_bitCount_0f7a4_3 : mStepO h k cJ6_bitCount_0f7a4 bl Q Y (3, lv, st, σ) = (mBin Y 4 lv st σ (fun x y => (x.toUInt32 >>> (y.toUInt32 &&& Int32.toUInt32 31)).toInt32)) := mStep_d dJ6_bitCount_0f7a4_3
theorem vJ6_bitCount_0f7a4_4 : mStepO h k cJ6_bitCount_0f7a4 bl Q Y (4, lv, st, σ) = (mKon k Y 7 lv st σ 265) := mStep_d dJ6_bitCount_0f7a4_4
theorem vJ6_bitCount_0f7a4_7 : mStepO h k cJ6_bitCount_0f7a4 bl Q Y (7, lv, st, σ) = (mBin Y 8 lv st σ (fun x y => x &&& y)) := mStep_d dJ6_bitCount_0f7a4_7
theorem vJ6_bitCount_0f7a4_8 : mStepO h k cJ6_bitCount_0f7a4 bl Q Y (8, lv, st, σ) = (mBin Y 9 lv st σ (fun x y => x - y)) := mStep_d dJ6_bitCount_0f7a4_8
theorem vJ6_bitCount_0f7a4_9 : mStepO h k cJ6_bitCount_0f7a4 bl Q Y (9, lv, st, σ) = (mStI Y 10 lv st σ 0) := mStep_d dJ6_bitCount_0f7a4_9
theorem vJ6_bitCount_0f7a4_10 : mStepO h k cJ6_bitCount_0f7a4 bl Q Y (10, lv, st, σ) = (mLdI Y 11 lv st σ 0) := mStep_d dJ6_bitCount_0f7a4_10
theorem vJ6_bitCount_0f7a4_11 : mStepO h k cJ6_bitCount_0f7a4 bl Q Y (11, lv, st, σ) = (mKon k Y 14 lv st σ 266) := mStep_d dJ6_bitCount_0f7a4_11
theorem vJ6_bitCount_0f7a4_14 : mStepO h k cJ6_bitCount_0f7a4 bl Q Y (14, lv, st, σ) = (mBin Y 15 lv st σ (fun x y => x &&& y)) := mStep_d dJ6_bitCount_0f7a4_14
theorem vJ6_bitCount_0f7a4_15 : mStepO h k cJ6_bitCount_0f7a4 bl Q Y (15, lv, st, σ) = (mLdI Y 16 lv st σ 0) := mStep_d dJ6_bitCount_0f7a4_15
theorem vJ6_bitCount_0f7a4_16 : mStepO h k cJ6_bitCount_0f7a4 bl Q Y (16, lv, st, σ) = (Y (17, lv, .int (2) :: st, σ)) := by rw [mStep_d dJ6_bitCount_0f7a4_16, ← mx_c2]; rfl
theorem vJ6_bitCount_0f7a4_17 : mStepO h k cJ6_bitCount_0f7a4 bl Q Y (17, lv, st, σ) = (mBin Y 18 lv st σ (fun x y => (x.toUInt32 >>> (y.toUInt32 &&& Int32.toUInt32 31)).toInt32)) := mStep_d dJ6_bitCount_0f7a4_17
theorem vJ6_bitCount_0f7a4_18 : mStepO h k cJ6_bitCount_0f7a4 bl Q Y (18, lv, st, σ) = (mKon k Y 21 lv st σ 266) := mStep_d dJ6_bitCount_0f7a4_18
theorem vJ6_bitCount_0f7a4_21 : mStepO h k cJ6_bitCount_0f7a4 bl Q Y (21, lv, st, σ) = (mBin Y 22 lv st σ (fun x y => x &&& y)) := mStep_d dJ6_bitCount_0f7a4_21
theorem vJ6_bitCount_0f7a4_22 : mStepO h k cJ6_bitCount_0f7a4 bl Q Y (22, lv, st, σ) = (mBin Y 23 lv st σ (fun x y => x + y)) := mStep_d dJ6_bitCount_0f7a4_22
theorem vJ6_bitCount_0f7a4_23 : mStepO h k cJ6_bitCount_0f7a4 bl Q Y (23, lv, st, σ) = (mStI Y 24 lv st σ 0) := mStep_d dJ6_bitCount_0f7a4_23
theorem vJ6_bitCount_0f7a4_24 : mStepO h k cJ6_bitCount_0f7a4 bl Q Y (24, lv, st, σ) = (mLdI Y 25 lv st σ 0) := mStep_d dJ6_bitCount_0f7a4_24
theorem vJ6_bitCount_0f7a4_25 : mStepO h k cJ6_bitCount_0f7a4 bl Q Y (25, lv, st, σ) = (mLdI Y 26 lv st σ 0) := mStep_d dJ6_bitCount_0f7a4_25
theorem vJ6_bitCount_0f7a4_26 : mStepO h k cJ6_bitCount_0f7a4 bl Q Y (26, lv, st, σ) = (Y (27, lv, .int (4) :: st, σ)) := by rw [mStep_d dJ6_bitCount_0f7a4_26, ← mx_c4]; rfl
theorem vJ6_bitCount_0f7a4_27 : mStepO h k cJ6_bitCount_0f7a4 bl Q Y (27, lv, st, σ) = (mBin Y 28 lv st σ (fun x y => (x.toUInt32 >>> (y.toUInt32 &&& Int32.toUInt32 31)).toInt32)) := mStep_d dJ6_bitCount_0f7a4_27
theorem vJ6_bitCount_0f7a4_28 : mStepO h k cJ6_bitCount_0f7a4 bl Q Y (28, lv, st, σ) = (mBin Y 29 lv st σ (fun x y => x + y)) := mStep_d dJ6_bitCount_0f7a4_28
theorem vJ6_bitCount_0f7a4_29 : mStepO h k cJ6_bitCount_0f7a4 bl Q Y (29, lv, st, σ) = (mKon k Y 32 lv st σ 267) := mStep_d dJ6_bitCount_0f7a4_29
theorem vJ6_bitCount_0f7a4_32 : mStepO h k cJ6_bitCount_0f7a4 bl Q Y (32, lv, st, σ) = (mBin Y 33 lv st σ (fun x y => x &&& y)) := mStep_d dJ6_bitCount_0f7a4_32
theorem vJ6_bitCount_0f7a4_33 : mStepO h k cJ6_bitCount_0f7a4 bl Q Y (33, lv, st, σ) = (mStI Y 34 lv st σ 0) := mStep_d dJ6_bitCount_0f7a4_33
theorem vJ6_bitCount_0f7a4_34 : mStepO h k cJ6_bitCount_0f7a4 bl Q Y (34, lv, st, σ) = (mLdI Y 35 lv st σ 0) := mStep_d dJ6_bitCount_0f7a4_34
theorem vJ6_bitCount_0f7a4_35 : mStepO h k cJ6_bitCount_0f7a4 bl Q Y (35, lv, st, σ) = (mLdI Y 36 lv st σ 0) := mStep_d dJ6_bitCount_0f7a4_35
theorem vJ6_bitCount_0f7a4_36 : mStepO h k cJ6_bitCount_0f7a4 bl Q Y (36, lv, st, σ) = (Y (38, lv, .int (8) :: st, σ)) := by rw [mStep_d dJ6_bitCount_0f7a4_36, ← mx_b8]; rfl
theorem vJ6_bitCount_0f7a4_38 : mStepO h k cJ6_bitCount_0f7a4 bl Q Y (38, lv, st, σ) = (mBin Y 39 lv st σ (fun x y => (x.toUInt32 >>> (y.toUInt32 &&& Int32.toUInt32 31)).toInt32)) := mStep_d dJ6_bitCount_0f7a4_38
theorem vJ6_bitCount_0f7a4_39 : mStepO h k cJ6_bitCount_0f7a4 bl Q Y (39, lv, st, σ) = (mBin Y 40 lv st σ (fun x y => x + y)) := mStep_d dJ6_bitCount_0f7a4_39
theorem vJ6_bitCount_0f7a4_40 : mStepO h k cJ6_bitCount_0f7a4 bl Q Y (40, lv, st, σ) = (mStI Y 41 lv st σ 0) := mStep_d dJ6_bitCount_0f7a4_40
theorem vJ6_bitCount_0f7a4_41 : mStepO h k cJ6_bitCount_0f7a4 bl Q Y (41, lv, st, σ) = (mLdI Y 42 lv st σ 0) := mStep_d dJ6_bitCount_0f7a4_41
theorem vJ6_bitCount_0f7a4_42 : mStepO h k cJ6_bitCount_0f7a4 bl Q Y (42, lv, st, σ) = (mLdI Y 43 lv st σ 0) := mStep_d dJ6_bitCount_0f7a4_42
theorem vJ6_bitCount_0f7a4_43 : mStepO h k cJ6_bitCount_0f7a4 bl Q Y (43, lv, st, σ) = (Y (45, lv, .int (16) :: st, σ)) := by rw [mStep_d dJ6_bitCount_0f7a4_43, ← mx_b16]; rfl
theorem vJ6_bitCount_0f7a4_45 : mStepO h k cJ6_bitCount_0f7a4 bl Q Y (45, lv, st, σ) = (mBin Y 46 lv st σ (fun x y => (x.toUInt32 >>> (y.toUInt32 &&& Int32.toUInt32 31)).toInt32)) := mStep_d dJ6_bitCount_0f7a4_45
theorem vJ6_bitCount_0f7a4_46 : mStepO h k cJ6_bitCount_0f7a4 bl Q Y (46, lv, st, σ) = (mBin Y 47 lv st σ (fun x y => x + y)) := mStep_d dJ6_bitCount_0f7a4_46
theorem vJ6_bitCount_0f7a4_47 : mStepO h k cJ6_bitCount_0f7a4 bl Q Y (47, lv, st, σ) = (mStI Y 48 lv st σ 0) := mStep_d dJ6_bitCount_0f7a4_47
theorem vJ6_bitCount_0f7a4_48 : mStepO h k cJ6_bitCount_0f7a4 bl Q Y (48, lv, st, σ) = (mLdI Y 49 lv st σ 0) := mStep_d dJ6_bitCount_0f7a4_48
theorem vJ6_bitCount_0f7a4_49 : mStepO h k cJ6_bitCount_0f7a4 bl Q Y (49, lv, st, σ) = (Y (51, lv, .int (63) :: st, σ)) := by rw [mStep_d dJ6_bitCount_0f7a4_49, ← mx_b63]; rfl
theorem vJ6_bitCount_0f7a4_51 : mStepO h k cJ6_bitCount_0f7a4 bl Q Y (51, lv, st, σ) = (mBin Y 52 lv st σ (fun x y => x &&& y)) := mStep_d dJ6_bitCount_0f7a4_51
theorem vJ6_bitCount_0f7a4_52 : mStepO h k cJ6_bitCount_0f7a4 bl Q Y (52, lv, st, σ) = (mRetI bl Q st σ) := mStep_d dJ6_bitCount_0f7a4_52
theorem vJ9_max_7cf53_0 : mStepO h k cJ9_max_7cf53 bl Q Y (0, lv, st, σ) = (mLdI Y 1 lv st σ 0) := mStep_d dJ9_max_7cf53_0
theorem vJ9_max_7cf53_1 : mStepO h k cJ9_max_7cf53 bl Q Y (1, lv, st, σ) = (mLdI Y 2 lv st σ 1) := mStep_d dJ9_max_7cf53_1
theorem vJ9_max_7cf53_2 : mStepO h k cJ9_max_7cf53 bl Q Y (2, lv, st, σ) = (mJ2 Y 9 5 lv st σ (fun x y => x < y)) := (mStep_d dJ9_max_7cf53_2).trans (mIf2_J jt_2_7 jp_2_7)
theorem vJ9_max_7cf53_5 : mStepO h k cJ9_max_7cf53 bl Q Y (5, lv, st, σ) = (mLdI Y 6 lv st σ 0) := mStep_d dJ9_max_7cf53_5
theorem vJ9_max_7cf53_6 : mStepO h k cJ9_max_7cf53 bl Q Y (6, lv, st, σ) = (Y (10, lv, st, σ)) := (mStep_d dJ9_max_7cf53_6).trans (mJ_J jt_6_4 jp_6_4)
theorem vJ9_max_7cf53_9 : mStepO h k cJ9_max_7cf53 bl Q Y (9, lv, st, σ) = (mLdI Y 10 lv st σ 1) := mStep_d dJ9_max_7cf53_9
theorem vJ9_max_7cf53_10 : mStepO h k cJ9_max_7cf53 bl Q Y (10, lv, st, σ) = (mRetI bl Q st σ) := mStep_d dJ9_max_7cf53_10
end MROWS
