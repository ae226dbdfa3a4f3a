section MROWS
variable (h : mH) (k : mK) (bl : Nat) (Q : Int32 → mS → Prop) (Y : mT → Prop) (lv : List (Option Value)) (st : List Value) (σ : mS)
theorem vX1_isIn_0 : mStepO h k cX1_isIn bl Q Y (0, lv, st, σ) = (mLdI Y 1 lv st σ 0) := mStep_d dX1_isIn_0
theorem vX1_isIn_1 : mStepO h k cX1_isIn bl Q Y (1, lv, st, σ) = (mLdI Y 2 lv st σ 1) := mStep_d dX1_isIn_1
theorem vX1_isIn_2 : mStepO h k cX1_isIn bl Q Y (2, lv, st, σ) = (mJ2 Y 14 5 lv st σ (fun x y => x < y)) := (mStep_d dX1_isIn_2).trans (mIf2_J jt_2_12 jp_2_12)
theorem vX1_isIn_5 : mStepO h k cX1_isIn bl Q Y (5, lv, st, σ) = (mLdI Y 6 lv st σ 0) := mStep_d dX1_isIn_5
theorem vX1_isIn_6 : mStepO h k cX1_isIn bl Q Y (6, lv, st, σ) = (mLdI Y 7 lv st σ 2) := mStep_d dX1_isIn_6
theorem vX1_isIn_7 : mStepO h k cX1_isIn bl Q Y (7, lv, st, σ) = (mJ2 Y 14 10 lv st σ (fun x y => y < x)) := (mStep_d dX1_isIn_7).trans (mIf2_J jt_7_7 jp_7_7)
theorem vX1_isIn_10 : mStepO h k cX1_isIn bl Q Y (10, lv, st, σ) = (Y (11, lv, .int (1) :: st, σ)) := by rw [mStep_d dX1_isIn_10, ← mx_c1]; rfl
theorem vX1_isIn_11 : mStepO h k cX1_isIn bl Q Y (11, lv, st, σ) = (Y (15, lv, st, σ)) := (mStep_d dX1_isIn_11).trans (mJ_J jt_11_4 jp_11_4)
theorem vX1_isIn_14 : mStepO h k cX1_isIn bl Q Y (14, lv, st, σ) = (Y (15, lv, .int (0) :: st, σ)) := by rw [mStep_d dX1_isIn_14, ← mx_c0]; rfl
theorem vX1_isIn_15 : mStepO h k cX1_isIn bl Q Y (15, lv, st, σ) = (mRetI bl Q st σ) := mStep_d dX1_isIn_15
theorem vX1_isThing_0 : mStepO h k cX1_isThing bl Q Y (0, lv, st, σ) = (mLdI Y 1 lv st σ 1) := mStep_d dX1_isThing_0
theorem vX1_isThing_1 : mStepO h k cX1_isThing bl Q Y (1, lv, st, σ) = (Y (2, lv, .int (0) :: st, σ)) := by rw [mStep_d dX1_isThing_1, ← mx_c0]; rfl
theorem vX1_isThing_2 : mStepO h k cX1_isThing bl Q Y (2, lv, st, σ) = (mLdA Y 3 lv st σ 0) := mStep_d dX1_isThing_2
theorem vX1_isThing_3 : mStepO h k cX1_isThing bl Q Y (3, lv, st, σ) = (mGet h k Y 6 lv st σ 53) := mStep_d dX1_isThing_3
theorem vX1_isThing_6 : mStepO h k cX1_isThing bl Q Y (6, lv, st, σ) = (Y (7, lv, .int (1) :: st, σ)) := by rw [mStep_d dX1_isThing_6, ← mx_c1]; rfl
theorem vX1_isThing_7 : mStepO h k cX1_isThing bl Q Y (7, lv, st, σ) = (mBin Y 8 lv st σ (fun x y => x - y)) := mStep_d dX1_isThing_7
theorem vX1_isThing_8 : mStepO h k cX1_isThing bl Q Y (8, lv, st, σ) = (mCaS k Y 11 lv st σ 56) := mStep_d dX1_isThing_8
theorem vX1_isThing_11 : mStepO h k cX1_isThing bl Q Y (11, lv, st, σ) = (mRetI bl Q st σ) := mStep_d dX1_isThing_11
theorem vX1_isPerson_0 : mStepO h k cX1_isPerson bl Q Y (0, lv, st, σ) = (mLdI Y 1 lv st σ 0) := mStep_d dX1_isPerson_0
theorem vX1_isPerson_1 : mStepO h k cX1_isPerson bl Q Y (1, lv, st, σ) = (Y (2, lv, .int (0) :: st, σ)) := by rw [mStep_d dX1_isPerson_1, ← mx_c0]; rfl
theorem vX1_isPerson_2 : mStepO h k cX1_isPerson bl Q Y (2, lv, st, σ) = (Y (4, lv, .int (7) :: st, σ)) := by rw [mStep_d dX1_isPerson_2, ← mx_b7]; rfl
theorem vX1_isPerson_4 : mStepO h k cX1_isPerson bl Q Y (4, lv, st, σ) = (mCaS k Y 7 lv st σ 56) := mStep_d dX1_isPerson_4
theorem vX1_isPerson_7 : mStepO h k cX1_isPerson bl Q Y (7, lv, st, σ) = (mRetI bl Q st σ) := mStep_d dX1_isPerson_7
theorem vX1_thing_0 : mStepO h k cX1_thing bl Q Y (0, lv, st, σ) = (mLdI Y 1 lv st σ 1) := mStep_d dX1_thing_0
theorem vX1_thing_1 : mStepO h k cX1_thing bl Q Y (1, lv, st, σ) = (Y (2, lv, .int (0) :: st, σ)) := by rw [mStep_d dX1_thing_1, ← mx_c0]; rfl
theorem vX1_thing_2 : mStepO h k cX1_thing bl Q Y (2, lv, st, σ) = (Y (3, lv, .int (3) :: st, σ)) := by rw [mStep_d dX1_thing_2, ← mx_c3]; rfl
theorem vX1_thing_3 : mStepO h k cX1_thing bl Q Y (3, lv, st, σ) = (mCaS k Y 6 lv st σ 56) := mStep_d dX1_thing_3
theorem vX1_thing_6 : mStepO h k cX1_thing bl Q Y (6, lv, st, σ) = (mJ1 Y 18 9 lv st σ (fun x => x = 0)) := (mStep_d dX1_thing_6).trans (mIf1_J jt_6_12 jp_6_12)
theorem vX1_thing_9 : mStepO h k cX1_thing bl Q Y (9, lv, st, σ) = (mLdA Y 10 lv st σ 0) := mStep_d dX1_thing_9
theorem vX1_thing_10 : mStepO h k cX1_thing bl Q Y (10, lv, st, σ) = (mGet h k Y 13 lv st σ 53) := mStep_d dX1_thing_10
theorem vX1_thing_13 : mStepO h k cX1_thing bl Q Y (13, lv, st, σ) = (Y (15, lv, .int (12) :: st, σ)) := by rw [mStep_d dX1_thing_13, ← mx_b12]; rfl
theorem vX1_thing_15 : mStepO h k cX1_thing bl Q Y (15, lv, st, σ) = (mN2 Y 20 18 lv st σ) := (mStep_d dX1_thing_15).trans (mIfN2_J jt_15_5 jp_15_5)
theorem vX1_thing_18 : mStepO h k cX1_thing bl Q Y (18, lv, st, σ) = (Y (19, lv, .int (-1) :: st, σ)) := by rw [mStep_d dX1_thing_18, ← mx_cm1]; rfl
theorem vX1_thing_19 : mStepO h k cX1_thing bl Q Y (19, lv, st, σ) = (mRetI bl Q st σ) := mStep_d dX1_thing_19
theorem vX1_thing_20 : mStepO h k cX1_thing bl Q Y (20, lv, st, σ) = (mLdA Y 21 lv st σ 0) := mStep_d dX1_thing_20
theorem vX1_thing_21 : mStepO h k cX1_thing bl Q Y (21, lv, st, σ) = (mGet h k Y 24 lv st σ 22) := mStep_d dX1_thing_21
theorem vX1_thing_24 : mStepO h k cX1_thing bl Q Y (24, lv, st, σ) = (mLdA Y 25 lv st σ 0) := mStep_d dX1_thing_24
theorem vX1_thing_25 : mStepO h k cX1_thing bl Q Y (25, lv, st, σ) = (mGet h k Y 28 lv st σ 53) := mStep_d dX1_thing_25
theorem vX1_thing_28 : mStepO h k cX1_thing bl Q Y (28, lv, st, σ) = (mLdI Y 29 lv st σ 1) := mStep_d dX1_thing_28
theorem vX1_thing_29 : mStepO h k cX1_thing bl Q Y (29, lv, st, σ) = (mStE h Y 30 lv st σ) := mStep_d dX1_thing_29
theorem vX1_thing_30 : mStepO h k cX1_thing bl Q Y (30, lv, st, σ) = (mLdA Y 31 lv st σ 0) := mStep_d dX1_thing_30
theorem vX1_thing_31 : mStepO h k cX1_thing bl Q Y (31, lv, st, σ) = (mGet h k Y 34 lv st σ 26) := mStep_d dX1_thing_31
theorem vX1_thing_34 : mStepO h k cX1_thing bl Q Y (34, lv, st, σ) = (mLdA Y 35 lv st σ 0) := mStep_d dX1_thing_34
theorem vX1_thing_35 : mStepO h k cX1_thing bl Q Y (35, lv, st, σ) = (mGet h k Y 38 lv st σ 53) := mStep_d dX1_thing_35
theorem vX1_thing_38 : mStepO h k cX1_thing bl Q Y (38, lv, st, σ) = (mLdA Y 39 lv st σ 0) := mStep_d dX1_thing_38
theorem vX1_thing_39 : mStepO h k cX1_thing bl Q Y (39, lv, st, σ) = (mGet h k Y 42 lv st σ 60) := mStep_d dX1_thing_39
theorem vX1_thing_42 : mStepO h k cX1_thing bl Q Y (42, lv, st, σ) = (mStE h Y 43 lv st σ) := mStep_d dX1_thing_42
theorem vX1_thing_43 : mStepO h k cX1_thing bl Q Y (43, lv, st, σ) = (mLdA Y 44 lv st σ 0) := mStep_d dX1_thing_43
theorem vX1_thing_44 : mStepO h k cX1_thing bl Q Y (44, lv, st, σ) = (mDup Y 45 lv st σ) := mStep_d dX1_thing_44
theorem vX1_thing_45 : mStepO h k cX1_thing bl Q Y (45, lv, st, σ) = (mGet h k Y 48 lv st σ 63) := mStep_d dX1_thing_45
theorem vX1_thing_48 : mStepO h k cX1_thing bl Q Y (48, lv, st, σ) = (Y (49, lv, .int (1) :: st, σ)) := by rw [mStep_d dX1_thing_48, ← mx_c1]; rfl
theorem vX1_thing_49 : mStepO h k cX1_thing bl Q Y (49, lv, st, σ) = (mLdA Y 50 lv st σ 0) := mStep_d dX1_thing_49
theorem vX1_thing_50 : mStepO h k cX1_thing bl Q Y (50, lv, st, σ) = (mGet h k Y 53 lv st σ 53) := mStep_d dX1_thing_50
theorem vX1_thing_53 : mStepO h k cX1_thing bl Q Y (53, lv, st, σ) = (mBin Y 54 lv st σ (fun x y => x <<< (y &&& 31))) := mStep_d dX1_thing_53
theorem vX1_thing_54 : mStepO h k cX1_thing bl Q Y (54, lv, st, σ) = (mBin Y 55 lv st σ (fun x y => x ||| y)) := mStep_d dX1_thing_54
theorem vX1_thing_55 : mStepO h k cX1_thing bl Q Y (55, lv, st, σ) = (mPut h k Y 58 lv st σ 63) := mStep_d dX1_thing_55
theorem vX1_thing_58 : mStepO h k cX1_thing bl Q Y (58, lv, st, σ) = (mLdA Y 59 lv st σ 0) := mStep_d dX1_thing_58
theorem vX1_thing_59 : mStepO h k cX1_thing bl Q Y (59, lv, st, σ) = (mDup Y 60 lv st σ) := mStep_d dX1_thing_59
theorem vX1_thing_60 : mStepO h k cX1_thing bl Q Y (60, lv, st, σ) = (mGet h k Y 63 lv st σ 53) := mStep_d dX1_thing_60
theorem vX1_thing_63 : mStepO h k cX1_thing bl Q Y (63, lv, st, σ) = (Y (64, lv, .int (1) :: st, σ)) := by rw [mStep_d dX1_thing_63, ← mx_c1]; rfl
theorem vX1_thing_64 : mStepO h k cX1_thing bl Q Y (64, lv, st, σ) = (mBin Y 65 lv st σ (fun x y => x + y)) := mStep_d dX1_thing_64
theorem vX1_thing_65 : mStepO h k cX1_thing bl Q Y (65, lv, st, σ) = (mPut h k Y 68 lv st σ 53) := mStep_d dX1_thing_65
theorem vX1_thing_68 : mStepO h k cX1_thing bl Q Y (68, lv, st, σ) = (mLdA Y 69 lv st σ 0) := mStep_d dX1_thing_68
theorem vX1_thing_69 : mStepO h k cX1_thing bl Q Y (69, lv, st, σ) = (mGet h k Y 72 lv st σ 53) := mStep_d dX1_thing_69
theorem vX1_thing_72 : mStepO h k cX1_thing bl Q Y (72, lv, st, σ) = (Y (73, lv, .int (1) :: st, σ)) := by rw [mStep_d dX1_thing_72, ← mx_c1]; rfl
theorem vX1_thing_73 : mStepO h k cX1_thing bl Q Y (73, lv, st, σ) = (mBin Y 74 lv st σ (fun x y => x - y)) := mStep_d dX1_thing_73
theorem vX1_thing_74 : mStepO h k cX1_thing bl Q Y (74, lv, st, σ) = (mRetI bl Q st σ) := mStep_d dX1_thing_74
theorem vX1_stock_0 : mStepO h k cX1_stock bl Q Y (0, lv, st, σ) = (mLdA Y 1 lv st σ 0) := mStep_d dX1_stock_0
theorem vX1_stock_1 : mStepO h k cX1_stock bl Q Y (1, lv, st, σ) = (mLdI Y 2 lv st σ 1) := mStep_d dX1_stock_1
theorem vX1_stock_2 : mStepO h k cX1_stock bl Q Y (2, lv, st, σ) = (mCaV k Y 5 lv st σ 66) := mStep_d dX1_stock_2
theorem vX1_stock_5 : mStepO h k cX1_stock bl Q Y (5, lv, st, σ) = (mJ1 Y 29 8 lv st σ (fun x => x = 0)) := (mStep_d dX1_stock_5).trans (mIf1_J jt_5_24 jp_5_24)
theorem vX1_stock_8 : mStepO h k cX1_stock bl Q Y (8, lv, st, σ) = (mLdA Y 9 lv st σ 0) := mStep_d dX1_stock_8
theorem vX1_stock_9 : mStepO h k cX1_stock bl Q Y (9, lv, st, σ) = (mGet h k Y 12 lv st σ 63) := mStep_d dX1_stock_9
theorem vX1_stock_12 : mStepO h k cX1_stock bl Q Y (12, lv, st, σ) = (mLdI Y 13 lv st σ 1) := mStep_d dX1_stock_12
theorem vX1_stock_13 : mStepO h k cX1_stock bl Q Y (13, lv, st, σ) = (mBin Y 14 lv st σ (fun x y => x >>> (y &&& 31))) := mStep_d dX1_stock_13
theorem vX1_stock_14 : mStepO h k cX1_stock bl Q Y (14, lv, st, σ) = (Y (15, lv, .int (1) :: st, σ)) := by rw [mStep_d dX1_stock_14, ← mx_c1]; rfl
theorem vX1_stock_15 : mStepO h k cX1_stock bl Q Y (15, lv, st, σ) = (mBin Y 16 lv st σ (fun x y => x &&& y)) := mStep_d dX1_stock_15
theorem vX1_stock_16 : mStepO h k cX1_stock bl Q Y (16, lv, st, σ) = (Y (17, lv, .int (1) :: st, σ)) := by rw [mStep_d dX1_stock_16, ← mx_c1]; rfl
theorem vX1_stock_17 : mStepO h k cX1_stock bl Q Y (17, lv, st, σ) = (mN2 Y 24 20 lv st σ) := (mStep_d dX1_stock_17).trans (mIfN2_J jt_17_7 jp_17_7)
theorem vX1_stock_20 : mStepO h k cX1_stock bl Q Y (20, lv, st, σ) = (Y (21, lv, .int (1) :: st, σ)) := by rw [mStep_d dX1_stock_20, ← mx_c1]; rfl
theorem vX1_stock_21 : mStepO h k cX1_stock bl Q Y (21, lv, st, σ) = (Y (25, lv, st, σ)) := (mStep_d dX1_stock_21).trans (mJ_J jt_21_4 jp_21_4)
theorem vX1_stock_24 : mStepO h k cX1_stock bl Q Y (24, lv, st, σ) = (Y (25, lv, .int (0) :: st, σ)) := by rw [mStep_d dX1_stock_24, ← mx_c0]; rfl
theorem vX1_stock_25 : mStepO h k cX1_stock bl Q Y (25, lv, st, σ) = (mLdI Y 26 lv st σ 2) := mStep_d dX1_stock_25
theorem vX1_stock_26 : mStepO h k cX1_stock bl Q Y (26, lv, st, σ) = (mN2 Y 31 29 lv st σ) := (mStep_d dX1_stock_26).trans (mIfN2_J jt_26_5 jp_26_5)
theorem vX1_stock_29 : mStepO h k cX1_stock bl Q Y (29, lv, st, σ) = (Y (30, lv, .int (0) :: st, σ)) := by rw [mStep_d dX1_stock_29, ← mx_c0]; rfl
theorem vX1_stock_30 : mStepO h k cX1_stock bl Q Y (30, lv, st, σ) = (mRetI bl Q st σ) := mStep_d dX1_stock_30
theorem vX1_stock_31 : mStepO h k cX1_stock bl Q Y (31, lv, st, σ) = (mLdA Y 32 lv st σ 0) := mStep_d dX1_stock_31
theorem vX1_stock_32 : mStepO h k cX1_stock bl Q Y (32, lv, st, σ) = (mDup Y 33 lv st σ) := mStep_d dX1_stock_32
theorem vX1_stock_33 : mStepO h k cX1_stock bl Q Y (33, lv, st, σ) = (mGet h k Y 36 lv st σ 63) := mStep_d dX1_stock_33
theorem vX1_stock_36 : mStepO h k cX1_stock bl Q Y (36, lv, st, σ) = (Y (37, lv, .int (1) :: st, σ)) := by rw [mStep_d dX1_stock_36, ← mx_c1]; rfl
theorem vX1_stock_37 : mStepO h k cX1_stock bl Q Y (37, lv, st, σ) = (mLdI Y 38 lv st σ 1) := mStep_d dX1_stock_37
theorem vX1_stock_38 : mStepO h k cX1_stock bl Q Y (38, lv, st, σ) = (mBin Y 39 lv st σ (fun x y => x <<< (y &&& 31))) := mStep_d dX1_stock_38
theorem vX1_stock_39 : mStepO h k cX1_stock bl Q Y (39, lv, st, σ) = (mBin Y 40 lv st σ (fun x y => x ^^^ y)) := mStep_d dX1_stock_39
theorem vX1_stock_40 : mStepO h k cX1_stock bl Q Y (40, lv, st, σ) = (mPut h k Y 43 lv st σ 63) := mStep_d dX1_stock_40
theorem vX1_stock_43 : mStepO h k cX1_stock bl Q Y (43, lv, st, σ) = (Y (44, lv, .int (1) :: st, σ)) := by rw [mStep_d dX1_stock_43, ← mx_c1]; rfl
theorem vX1_stock_44 : mStepO h k cX1_stock bl Q Y (44, lv, st, σ) = (mRetI bl Q st σ) := mStep_d dX1_stock_44
theorem vX1_set_0 : mStepO h k cX1_set bl Q Y (0, lv, st, σ) = (mLdI Y 1 lv st σ 1) := mStep_d dX1_set_0
theorem vX1_set_1 : mStepO h k cX1_set bl Q Y (1, lv, st, σ) = (Y (2, lv, .int (0) :: st, σ)) := by rw [mStep_d dX1_set_1, ← mx_c0]; rfl
theorem vX1_set_2 : mStepO h k cX1_set bl Q Y (2, lv, st, σ) = (Y (3, lv, .int (3) :: st, σ)) := by rw [mStep_d dX1_set_2, ← mx_c3]; rfl
theorem vX1_set_3 : mStepO h k cX1_set bl Q Y (3, lv, st, σ) = (mCaS k Y 6 lv st σ 56) := mStep_d dX1_set_3
theorem vX1_set_6 : mStepO h k cX1_set bl Q Y (6, lv, st, σ) = (mJ1 Y 36 9 lv st σ (fun x => x = 0)) := (mStep_d dX1_set_6).trans (mIf1_J jt_6_30 jp_6_30)
theorem vX1_set_9 : mStepO h k cX1_set bl Q Y (9, lv, st, σ) = (mLdI Y 10 lv st σ 2) := mStep_d dX1_set_9
theorem vX1_set_10 : mStepO h k cX1_set bl Q Y (10, lv, st, σ) = (Y (11, lv, .int (1) :: st, σ)) := by rw [mStep_d dX1_set_10, ← mx_c1]; rfl
theorem vX1_set_11 : mStepO h k cX1_set bl Q Y (11, lv, st, σ) = (mLdI Y 12 lv st σ 1) := mStep_d dX1_set_11
theorem vX1_set_12 : mStepO h k cX1_set bl Q Y (12, lv, st, σ) = (mN1 Y 19 15 lv st σ) := (mStep_d dX1_set_12).trans (mIfN1_J jt_12_7 jp_12_7)
theorem vX1_set_15 : mStepO h k cX1_set bl Q Y (15, lv, st, σ) = (Y (16, lv, .int (4) :: st, σ)) := by rw [mStep_d dX1_set_15, ← mx_c4]; rfl
theorem vX1_set_16 : mStepO h k cX1_set bl Q Y (16, lv, st, σ) = (Y (30, lv, st, σ)) := (mStep_d dX1_set_16).trans (mJ_J jt_16_14 jp_16_14)
theorem vX1_set_19 : mStepO h k cX1_set bl Q Y (19, lv, st, σ) = (mLdI Y 20 lv st σ 1) := mStep_d dX1_set_19
theorem vX1_set_20 : mStepO h k cX1_set bl Q Y (20, lv, st, σ) = (Y (21, lv, .int (1) :: st, σ)) := by rw [mStep_d dX1_set_20, ← mx_c1]; rfl
theorem vX1_set_21 : mStepO h k cX1_set bl Q Y (21, lv, st, σ) = (mN2 Y 28 24 lv st σ) := (mStep_d dX1_set_21).trans (mIfN2_J jt_21_7 jp_21_7)
theorem vX1_set_24 : mStepO h k cX1_set bl Q Y (24, lv, st, σ) = (Y (25, lv, .int (5) :: st, σ)) := by rw [mStep_d dX1_set_24, ← mx_c5]; rfl
theorem vX1_set_25 : mStepO h k cX1_set bl Q Y (25, lv, st, σ) = (Y (30, lv, st, σ)) := (mStep_d dX1_set_25).trans (mJ_J jt_25_5 jp_25_5)
theorem vX1_set_28 : mStepO h k cX1_set bl Q Y (28, lv, st, σ) = (Y (30, lv, .int (9) :: st, σ)) := by rw [mStep_d dX1_set_28, ← mx_b9]; rfl
theorem vX1_set_30 : mStepO h k cX1_set bl Q Y (30, lv, st, σ) = (mCaS k Y 33 lv st σ 56) := mStep_d dX1_set_30
theorem vX1_set_33 : mStepO h k cX1_set bl Q Y (33, lv, st, σ) = (mN1 Y 38 36 lv st σ) := (mStep_d dX1_set_33).trans (mIfN1_J jt_33_5 jp_33_5)
theorem vX1_set_36 : mStepO h k cX1_set bl Q Y (36, lv, st, σ) = (Y (37, lv, .int (0) :: st, σ)) := by rw [mStep_d dX1_set_36, ← mx_c0]; rfl
theorem vX1_set_37 : mStepO h k cX1_set bl Q Y (37, lv, st, σ) = (mRetI bl Q st σ) := mStep_d dX1_set_37
theorem vX1_set_38 : mStepO h k cX1_set bl Q Y (38, lv, st, σ) = (mLdI Y 39 lv st σ 1) := mStep_d dX1_set_38
theorem vX1_set_39 : mStepO h k cX1_set bl Q Y (39, lv, st, σ) = (mN1 Y 50 42 lv st σ) := (mStep_d dX1_set_39).trans (mIfN1_J jt_39_11 jp_39_11)
theorem vX1_set_42 : mStepO h k cX1_set bl Q Y (42, lv, st, σ) = (mLdA Y 43 lv st σ 0) := mStep_d dX1_set_42
theorem vX1_set_43 : mStepO h k cX1_set bl Q Y (43, lv, st, σ) = (mLdI Y 44 lv st σ 2) := mStep_d dX1_set_43
theorem vX1_set_44 : mStepO h k cX1_set bl Q Y (44, lv, st, σ) = (mPut h k Y 47 lv st σ 7) := mStep_d dX1_set_44
theorem vX1_set_47 : mStepO h k cX1_set bl Q Y (47, lv, st, σ) = (Y (81, lv, st, σ)) := (mStep_d dX1_set_47).trans (mJ_J jt_47_34 jp_47_34)
theorem vX1_set_50 : mStepO h k cX1_set bl Q Y (50, lv, st, σ) = (mLdI Y 51 lv st σ 1) := mStep_d dX1_set_50
theorem vX1_set_51 : mStepO h k cX1_set bl Q Y (51, lv, st, σ) = (Y (52, lv, .int (1) :: st, σ)) := by rw [mStep_d dX1_set_51, ← mx_c1]; rfl
theorem vX1_set_52 : mStepO h k cX1_set bl Q Y (52, lv, st, σ) = (mN2 Y 63 55 lv st σ) := (mStep_d dX1_set_52).trans (mIfN2_J jt_52_11 jp_52_11)
theorem vX1_set_55 : mStepO h k cX1_set bl Q Y (55, lv, st, σ) = (mLdA Y 56 lv st σ 0) := mStep_d dX1_set_55
theorem vX1_set_56 : mStepO h k cX1_set bl Q Y (56, lv, st, σ) = (mLdI Y 57 lv st σ 2) := mStep_d dX1_set_56
theorem vX1_set_57 : mStepO h k cX1_set bl Q Y (57, lv, st, σ) = (mPut h k Y 60 lv st σ 13) := mStep_d dX1_set_57
theorem vX1_set_60 : mStepO h k cX1_set bl Q Y (60, lv, st, σ) = (Y (81, lv, st, σ)) := (mStep_d dX1_set_60).trans (mJ_J jt_60_21 jp_60_21)
theorem vX1_set_63 : mStepO h k cX1_set bl Q Y (63, lv, st, σ) = (mLdI Y 64 lv st σ 1) := mStep_d dX1_set_63
theorem vX1_set_64 : mStepO h k cX1_set bl Q Y (64, lv, st, σ) = (Y (65, lv, .int (2) :: st, σ)) := by rw [mStep_d dX1_set_64, ← mx_c2]; rfl
theorem vX1_set_65 : mStepO h k cX1_set bl Q Y (65, lv, st, σ) = (mN2 Y 76 68 lv st σ) := (mStep_d dX1_set_65).trans (mIfN2_J jt_65_11 jp_65_11)
theorem vX1_set_68 : mStepO h k cX1_set bl Q Y (68, lv, st, σ) = (mLdA Y 69 lv st σ 0) := mStep_d dX1_set_68
theorem vX1_set_69 : mStepO h k cX1_set bl Q Y (69, lv, st, σ) = (mLdI Y 70 lv st σ 2) := mStep_d dX1_set_69
theorem vX1_set_70 : mStepO h k cX1_set bl Q Y (70, lv, st, σ) = (mPut h k Y 73 lv st σ 16) := mStep_d dX1_set_70
theorem vX1_set_73 : mStepO h k cX1_set bl Q Y (73, lv, st, σ) = (Y (81, lv, st, σ)) := (mStep_d dX1_set_73).trans (mJ_J jt_73_8 jp_73_8)
theorem vX1_set_76 : mStepO h k cX1_set bl Q Y (76, lv, st, σ) = (mLdA Y 77 lv st σ 0) := mStep_d dX1_set_76
theorem vX1_set_77 : mStepO h k cX1_set bl Q Y (77, lv, st, σ) = (mLdI Y 78 lv st σ 2) := mStep_d dX1_set_77
theorem vX1_set_78 : mStepO h k cX1_set bl Q Y (78, lv, st, σ) = (mPut h k Y 81 lv st σ 19) := mStep_d dX1_set_78
theorem vX1_set_81 : mStepO h k cX1_set bl Q Y (81, lv, st, σ) = (Y (82, lv, .int (1) :: st, σ)) := by rw [mStep_d dX1_set_81, ← mx_c1]; rfl
theorem vX1_set_82 : mStepO h k cX1_set bl Q Y (82, lv, st, σ) = (mRetI bl Q st σ) := mStep_d dX1_set_82
theorem vX1_apart_0 : mStepO h k cX1_apart bl Q Y (0, lv, st, σ) = (mLdA Y 1 lv st σ 0) := mStep_d dX1_apart_0
theorem vX1_apart_1 : mStepO h k cX1_apart bl Q Y (1, lv, st, σ) = (mLdI Y 2 lv st σ 1) := mStep_d dX1_apart_1
theorem vX1_apart_2 : mStepO h k cX1_apart bl Q Y (2, lv, st, σ) = (mCaV k Y 5 lv st σ 66) := mStep_d dX1_apart_2
theorem vX1_apart_5 : mStepO h k cX1_apart bl Q Y (5, lv, st, σ) = (mJ1 Y 44 8 lv st σ (fun x => x = 0)) := (mStep_d dX1_apart_5).trans (mIf1_J jt_5_39 jp_5_39)
theorem vX1_apart_8 : mStepO h k cX1_apart bl Q Y (8, lv, st, σ) = (mLdA Y 9 lv st σ 0) := mStep_d dX1_apart_8
theorem vX1_apart_9 : mStepO h k cX1_apart bl Q Y (9, lv, st, σ) = (mLdI Y 10 lv st σ 2) := mStep_d dX1_apart_9
theorem vX1_apart_10 : mStepO h k cX1_apart bl Q Y (10, lv, st, σ) = (mCaV k Y 13 lv st σ 66) := mStep_d dX1_apart_10
theorem vX1_apart_13 : mStepO h k cX1_apart bl Q Y (13, lv, st, σ) = (mJ1 Y 44 16 lv st σ (fun x => x = 0)) := (mStep_d dX1_apart_13).trans (mIf1_J jt_13_31 jp_13_31)
theorem vX1_apart_16 : mStepO h k cX1_apart bl Q Y (16, lv, st, σ) = (mLdI Y 17 lv st σ 1) := mStep_d dX1_apart_16
theorem vX1_apart_17 : mStepO h k cX1_apart bl Q Y (17, lv, st, σ) = (mLdI Y 18 lv st σ 2) := mStep_d dX1_apart_17
theorem vX1_apart_18 : mStepO h k cX1_apart bl Q Y (18, lv, st, σ) = (mJ2 Y 44 21 lv st σ (fun x y => x = y)) := (mStep_d dX1_apart_18).trans (mIf2_J jt_18_26 jp_18_26)
theorem vX1_apart_21 : mStepO h k cX1_apart bl Q Y (21, lv, st, σ) = (mLdA Y 22 lv st σ 0) := mStep_d dX1_apart_21
theorem vX1_apart_22 : mStepO h k cX1_apart bl Q Y (22, lv, st, σ) = (mGet h k Y 25 lv st σ 29) := mStep_d dX1_apart_22
theorem vX1_apart_25 : mStepO h k cX1_apart bl Q Y (25, lv, st, σ) = (mLdI Y 26 lv st σ 1) := mStep_d dX1_apart_25
theorem vX1_apart_26 : mStepO h k cX1_apart bl Q Y (26, lv, st, σ) = (mLdE h Y 27 lv st σ) := mStep_d dX1_apart_26
theorem vX1_apart_27 : mStepO h k cX1_apart bl Q Y (27, lv, st, σ) = (mLdI Y 28 lv st σ 2) := mStep_d dX1_apart_27
theorem vX1_apart_28 : mStepO h k cX1_apart bl Q Y (28, lv, st, σ) = (mBin Y 29 lv st σ (fun x y => x >>> (y &&& 31))) := mStep_d dX1_apart_28
theorem vX1_apart_29 : mStepO h k cX1_apart bl Q Y (29, lv, st, σ) = (Y (30, lv, .int (1) :: st, σ)) := by rw [mStep_d dX1_apart_29, ← mx_c1]; rfl
theorem vX1_apart_30 : mStepO h k cX1_apart bl Q Y (30, lv, st, σ) = (mBin Y 31 lv st σ (fun x y => x &&& y)) := mStep_d dX1_apart_30
theorem vX1_apart_31 : mStepO h k cX1_apart bl Q Y (31, lv, st, σ) = (Y (32, lv, .int (1) :: st, σ)) := by rw [mStep_d dX1_apart_31, ← mx_c1]; rfl
theorem vX1_apart_32 : mStepO h k cX1_apart bl Q Y (32, lv, st, σ) = (mN2 Y 39 35 lv st σ) := (mStep_d dX1_apart_32).trans (mIfN2_J jt_32_7 jp_32_7)
theorem vX1_apart_35 : mStepO h k cX1_apart bl Q Y (35, lv, st, σ) = (Y (36, lv, .int (1) :: st, σ)) := by rw [mStep_d dX1_apart_35, ← mx_c1]; rfl
theorem vX1_apart_36 : mStepO h k cX1_apart bl Q Y (36, lv, st, σ) = (Y (40, lv, st, σ)) := (mStep_d dX1_apart_36).trans (mJ_J jt_36_4 jp_36_4)
theorem vX1_apart_39 : mStepO h k cX1_apart bl Q Y (39, lv, st, σ) = (Y (40, lv, .int (0) :: st, σ)) := by rw [mStep_d dX1_apart_39, ← mx_c0]; rfl
theorem vX1_apart_40 : mStepO h k cX1_apart bl Q Y (40, lv, st, σ) = (mLdI Y 41 lv st σ 3) := mStep_d dX1_apart_40
theorem vX1_apart_41 : mStepO h k cX1_apart bl Q Y (41, lv, st, σ) = (mN2 Y 46 44 lv st σ) := (mStep_d dX1_apart_41).trans (mIfN2_J jt_41_5 jp_41_5)
theorem vX1_apart_44 : mStepO h k cX1_apart bl Q Y (44, lv, st, σ) = (Y (45, lv, .int (0) :: st, σ)) := by rw [mStep_d dX1_apart_44, ← mx_c0]; rfl
theorem vX1_apart_45 : mStepO h k cX1_apart bl Q Y (45, lv, st, σ) = (mRetI bl Q st σ) := mStep_d dX1_apart_45
theorem vX1_apart_46 : mStepO h k cX1_apart bl Q Y (46, lv, st, σ) = (mLdA Y 47 lv st σ 0) := mStep_d dX1_apart_46
theorem vX1_apart_47 : mStepO h k cX1_apart bl Q Y (47, lv, st, σ) = (mGet h k Y 50 lv st σ 29) := mStep_d dX1_apart_47
theorem vX1_apart_50 : mStepO h k cX1_apart bl Q Y (50, lv, st, σ) = (mLdI Y 51 lv st σ 1) := mStep_d dX1_apart_50
theorem vX1_apart_51 : mStepO h k cX1_apart bl Q Y (51, lv, st, σ) = (mDup2 Y 52 lv st σ) := mStep_d dX1_apart_51
theorem vX1_apart_52 : mStepO h k cX1_apart bl Q Y (52, lv, st, σ) = (mLdE h Y 53 lv st σ) := mStep_d dX1_apart_52
theorem vX1_apart_53 : mStepO h k cX1_apart bl Q Y (53, lv, st, σ) = (Y (54, lv, .int (1) :: st, σ)) := by rw [mStep_d dX1_apart_53, ← mx_c1]; rfl
theorem vX1_apart_54 : mStepO h k cX1_apart bl Q Y (54, lv, st, σ) = (mLdI Y 55 lv st σ 2) := mStep_d dX1_apart_54
theorem vX1_apart_55 : mStepO h k cX1_apart bl Q Y (55, lv, st, σ) = (mBin Y 56 lv st σ (fun x y => x <<< (y &&& 31))) := mStep_d dX1_apart_55
theorem vX1_apart_56 : mStepO h k cX1_apart bl Q Y (56, lv, st, σ) = (mBin Y 57 lv st σ (fun x y => x ^^^ y)) := mStep_d dX1_apart_56
theorem vX1_apart_57 : mStepO h k cX1_apart bl Q Y (57, lv, st, σ) = (mStE h Y 58 lv st σ) := mStep_d dX1_apart_57
theorem vX1_apart_58 : mStepO h k cX1_apart bl Q Y (58, lv, st, σ) = (mLdA Y 59 lv st σ 0) := mStep_d dX1_apart_58
theorem vX1_apart_59 : mStepO h k cX1_apart bl Q Y (59, lv, st, σ) = (mGet h k Y 62 lv st σ 29) := mStep_d dX1_apart_59
theorem vX1_apart_62 : mStepO h k cX1_apart bl Q Y (62, lv, st, σ) = (mLdI Y 63 lv st σ 2) := mStep_d dX1_apart_62
theorem vX1_apart_63 : mStepO h k cX1_apart bl Q Y (63, lv, st, σ) = (mDup2 Y 64 lv st σ) := mStep_d dX1_apart_63
theorem vX1_apart_64 : mStepO h k cX1_apart bl Q Y (64, lv, st, σ) = (mLdE h Y 65 lv st σ) := mStep_d dX1_apart_64
theorem vX1_apart_65 : mStepO h k cX1_apart bl Q Y (65, lv, st, σ) = (Y (66, lv, .int (1) :: st, σ)) := by rw [mStep_d dX1_apart_65, ← mx_c1]; rfl
theorem vX1_apart_66 : mStepO h k cX1_apart bl Q Y (66, lv, st, σ) = (mLdI Y 67 lv st σ 1) := mStep_d dX1_apart_66
theorem vX1_apart_67 : mStepO h k cX1_apart bl Q Y (67, lv, st, σ) = (mBin Y 68 lv st σ (fun x y => x <<< (y &&& 31))) := mStep_d dX1_apart_67
theorem vX1_apart_68 : mStepO h k cX1_apart bl Q Y (68, lv, st, σ) = (mBin Y 69 lv st σ (fun x y => x ^^^ y)) := mStep_d dX1_apart_68
theorem vX1_apart_69 : mStepO h k cX1_apart bl Q Y (69, lv, st, σ) = (mStE h Y 70 lv st σ) := mStep_d dX1_apart_69
theorem vX1_apart_70 : mStepO h k cX1_apart bl Q Y (70, lv, st, σ) = (Y (71, lv, .int (1) :: st, σ)) := by rw [mStep_d dX1_apart_70, ← mx_c1]; rfl
theorem vX1_apart_71 : mStepO h k cX1_apart bl Q Y (71, lv, st, σ) = (mRetI bl Q st σ) := mStep_d dX1_apart_71
theorem vX1_basket_0 : mStepO h k cX1_basket bl Q Y (0, lv, st, σ) = (mLdI Y 1 lv st σ 1) := mStep_d dX1_basket_0
theorem vX1_basket_1 : mStepO h k cX1_basket bl Q Y (1, lv, st, σ) = (mCaS k Y 4 lv st σ 70) := mStep_d dX1_basket_1
theorem vX1_basket_4 : mStepO h k cX1_basket bl Q Y (4, lv, st, σ) = (mJ1 Y 32 7 lv st σ (fun x => x = 0)) := (mStep_d dX1_basket_4).trans (mIf1_J jt_4_28 jp_4_28)
theorem vX1_basket_7 : mStepO h k cX1_basket bl Q Y (7, lv, st, σ) = (mLdI Y 8 lv st σ 2) := mStep_d dX1_basket_7
theorem vX1_basket_8 : mStepO h k cX1_basket bl Q Y (8, lv, st, σ) = (Y (9, lv, .int (1) :: st, σ)) := by rw [mStep_d dX1_basket_8, ← mx_c1]; rfl
theorem vX1_basket_9 : mStepO h k cX1_basket bl Q Y (9, lv, st, σ) = (Y (10, lv, .int (1) :: st, σ)) := by rw [mStep_d dX1_basket_9, ← mx_c1]; rfl
theorem vX1_basket_10 : mStepO h k cX1_basket bl Q Y (10, lv, st, σ) = (mLdA Y 11 lv st σ 0) := mStep_d dX1_basket_10
theorem vX1_basket_11 : mStepO h k cX1_basket bl Q Y (11, lv, st, σ) = (mGet h k Y 14 lv st σ 53) := mStep_d dX1_basket_11
theorem vX1_basket_14 : mStepO h k cX1_basket bl Q Y (14, lv, st, σ) = (mBin Y 15 lv st σ (fun x y => x <<< (y &&& 31))) := mStep_d dX1_basket_14
theorem vX1_basket_15 : mStepO h k cX1_basket bl Q Y (15, lv, st, σ) = (Y (16, lv, .int (1) :: st, σ)) := by rw [mStep_d dX1_basket_15, ← mx_c1]; rfl
theorem vX1_basket_16 : mStepO h k cX1_basket bl Q Y (16, lv, st, σ) = (mBin Y 17 lv st σ (fun x y => x - y)) := mStep_d dX1_basket_16
theorem vX1_basket_17 : mStepO h k cX1_basket bl Q Y (17, lv, st, σ) = (mCaS k Y 20 lv st σ 56) := mStep_d dX1_basket_17
theorem vX1_basket_20 : mStepO h k cX1_basket bl Q Y (20, lv, st, σ) = (mJ1 Y 32 23 lv st σ (fun x => x = 0)) := (mStep_d dX1_basket_20).trans (mIf1_J jt_20_12 jp_20_12)
theorem vX1_basket_23 : mStepO h k cX1_basket bl Q Y (23, lv, st, σ) = (mLdA Y 24 lv st σ 0) := mStep_d dX1_basket_23
theorem vX1_basket_24 : mStepO h k cX1_basket bl Q Y (24, lv, st, σ) = (mGet h k Y 27 lv st σ 73) := mStep_d dX1_basket_24
theorem vX1_basket_27 : mStepO h k cX1_basket bl Q Y (27, lv, st, σ) = (Y (29, lv, .int (60) :: st, σ)) := by rw [mStep_d dX1_basket_27, ← mx_b60]; rfl
theorem vX1_basket_29 : mStepO h k cX1_basket bl Q Y (29, lv, st, σ) = (mN2 Y 34 32 lv st σ) := (mStep_d dX1_basket_29).trans (mIfN2_J jt_29_5 jp_29_5)
theorem vX1_basket_32 : mStepO h k cX1_basket bl Q Y (32, lv, st, σ) = (Y (33, lv, .int (-1) :: st, σ)) := by rw [mStep_d dX1_basket_32, ← mx_cm1]; rfl
theorem vX1_basket_33 : mStepO h k cX1_basket bl Q Y (33, lv, st, σ) = (mRetI bl Q st σ) := mStep_d dX1_basket_33
theorem vX1_basket_34 : mStepO h k cX1_basket bl Q Y (34, lv, st, σ) = (mLdA Y 35 lv st σ 0) := mStep_d dX1_basket_34
theorem vX1_basket_35 : mStepO h k cX1_basket bl Q Y (35, lv, st, σ) = (mGet h k Y 38 lv st σ 32) := mStep_d dX1_basket_35
theorem vX1_basket_38 : mStepO h k cX1_basket bl Q Y (38, lv, st, σ) = (mLdA Y 39 lv st σ 0) := mStep_d dX1_basket_38
theorem vX1_basket_39 : mStepO h k cX1_basket bl Q Y (39, lv, st, σ) = (mGet h k Y 42 lv st σ 73) := mStep_d dX1_basket_39
theorem vX1_basket_42 : mStepO h k cX1_basket bl Q Y (42, lv, st, σ) = (mLdI Y 43 lv st σ 1) := mStep_d dX1_basket_42
theorem vX1_basket_43 : mStepO h k cX1_basket bl Q Y (43, lv, st, σ) = (mStE h Y 44 lv st σ) := mStep_d dX1_basket_43
theorem vX1_basket_44 : mStepO h k cX1_basket bl Q Y (44, lv, st, σ) = (mLdA Y 45 lv st σ 0) := mStep_d dX1_basket_44
theorem vX1_basket_45 : mStepO h k cX1_basket bl Q Y (45, lv, st, σ) = (mGet h k Y 48 lv st σ 35) := mStep_d dX1_basket_45
theorem vX1_basket_48 : mStepO h k cX1_basket bl Q Y (48, lv, st, σ) = (mLdA Y 49 lv st σ 0) := mStep_d dX1_basket_48
theorem vX1_basket_49 : mStepO h k cX1_basket bl Q Y (49, lv, st, σ) = (mGet h k Y 52 lv st σ 73) := mStep_d dX1_basket_49
theorem vX1_basket_52 : mStepO h k cX1_basket bl Q Y (52, lv, st, σ) = (mLdA Y 53 lv st σ 0) := mStep_d dX1_basket_52
theorem vX1_basket_53 : mStepO h k cX1_basket bl Q Y (53, lv, st, σ) = (mGet h k Y 56 lv st σ 60) := mStep_d dX1_basket_53
theorem vX1_basket_56 : mStepO h k cX1_basket bl Q Y (56, lv, st, σ) = (mStE h Y 57 lv st σ) := mStep_d dX1_basket_56
theorem vX1_basket_57 : mStepO h k cX1_basket bl Q Y (57, lv, st, σ) = (mLdA Y 58 lv st σ 0) := mStep_d dX1_basket_57
theorem vX1_basket_58 : mStepO h k cX1_basket bl Q Y (58, lv, st, σ) = (mGet h k Y 61 lv st σ 38) := mStep_d dX1_basket_58
theorem vX1_basket_61 : mStepO h k cX1_basket bl Q Y (61, lv, st, σ) = (mLdA Y 62 lv st σ 0) := mStep_d dX1_basket_61
theorem vX1_basket_62 : mStepO h k cX1_basket bl Q Y (62, lv, st, σ) = (mGet h k Y 65 lv st σ 73) := mStep_d dX1_basket_62
theorem vX1_basket_65 : mStepO h k cX1_basket bl Q Y (65, lv, st, σ) = (mLdI Y 66 lv st σ 2) := mStep_d dX1_basket_65
theorem vX1_basket_66 : mStepO h k cX1_basket bl Q Y (66, lv, st, σ) = (mStE h Y 67 lv st σ) := mStep_d dX1_basket_66
theorem vX1_basket_67 : mStepO h k cX1_basket bl Q Y (67, lv, st, σ) = (mLdA Y 68 lv st σ 0) := mStep_d dX1_basket_67
theorem vX1_basket_68 : mStepO h k cX1_basket bl Q Y (68, lv, st, σ) = (mDup Y 69 lv st σ) := mStep_d dX1_basket_68
theorem vX1_basket_69 : mStepO h k cX1_basket bl Q Y (69, lv, st, σ) = (mGet h k Y 72 lv st σ 73) := mStep_d dX1_basket_69
theorem vX1_basket_72 : mStepO h k cX1_basket bl Q Y (72, lv, st, σ) = (Y (73, lv, .int (1) :: st, σ)) := by rw [mStep_d dX1_basket_72, ← mx_c1]; rfl
theorem vX1_basket_73 : mStepO h k cX1_basket bl Q Y (73, lv, st, σ) = (mBin Y 74 lv st σ (fun x y => x + y)) := mStep_d dX1_basket_73
theorem vX1_basket_74 : mStepO h k cX1_basket bl Q Y (74, lv, st, σ) = (mPut h k Y 77 lv st σ 73) := mStep_d dX1_basket_74
theorem vX1_basket_77 : mStepO h k cX1_basket bl Q Y (77, lv, st, σ) = (Y (78, lv, .int (0) :: st, σ)) := by rw [mStep_d dX1_basket_77, ← mx_c0]; rfl
theorem vX1_basket_78 : mStepO h k cX1_basket bl Q Y (78, lv, st, σ) = (mStI Y 79 lv st σ 3) := mStep_d dX1_basket_78
theorem vX1_basket_79 : mStepO h k cX1_basket bl Q Y (79, lv, st, σ) = (mLdI Y 80 lv st σ 3) := mStep_d dX1_basket_79
theorem vX1_basket_80 : mStepO h k cX1_basket bl Q Y (80, lv, st, σ) = (mLdA Y 81 lv st σ 0) := mStep_d dX1_basket_80
theorem vX1_basket_81 : mStepO h k cX1_basket bl Q Y (81, lv, st, σ) = (mGet h k Y 84 lv st σ 53) := mStep_d dX1_basket_81
theorem vX1_basket_84 : mStepO h k cX1_basket bl Q Y (84, lv, st, σ) = (mJ2 Y 128 87 lv st σ (fun x y => y ≤ x)) := (mStep_d dX1_basket_84).trans (mIf2_J jt_84_44 jp_84_44)
theorem vX1_basket_87 : mStepO h k cX1_basket bl Q Y (87, lv, st, σ) = (mLdI Y 88 lv st σ 2) := mStep_d dX1_basket_87
theorem vX1_basket_88 : mStepO h k cX1_basket bl Q Y (88, lv, st, σ) = (mLdI Y 89 lv st σ 3) := mStep_d dX1_basket_88
theorem vX1_basket_89 : mStepO h k cX1_basket bl Q Y (89, lv, st, σ) = (mBin Y 90 lv st σ (fun x y => x >>> (y &&& 31))) := mStep_d dX1_basket_89
theorem vX1_basket_90 : mStepO h k cX1_basket bl Q Y (90, lv, st, σ) = (Y (91, lv, .int (1) :: st, σ)) := by rw [mStep_d dX1_basket_90, ← mx_c1]; rfl
theorem vX1_basket_91 : mStepO h k cX1_basket bl Q Y (91, lv, st, σ) = (mBin Y 92 lv st σ (fun x y => x &&& y)) := mStep_d dX1_basket_91
theorem vX1_basket_92 : mStepO h k cX1_basket bl Q Y (92, lv, st, σ) = (mN1 Y 98 95 lv st σ) := (mStep_d dX1_basket_92).trans (mIfN1_J jt_92_6 jp_92_6)
theorem vX1_basket_95 : mStepO h k cX1_basket bl Q Y (95, lv, st, σ) = (Y (122, lv, st, σ)) := (mStep_d dX1_basket_95).trans (mJ_J jt_95_27 jp_95_27)
theorem vX1_basket_98 : mStepO h k cX1_basket bl Q Y (98, lv, st, σ) = (mLdA Y 99 lv st σ 0) := mStep_d dX1_basket_98
theorem vX1_basket_99 : mStepO h k cX1_basket bl Q Y (99, lv, st, σ) = (mGet h k Y 102 lv st σ 44) := mStep_d dX1_basket_99
theorem vX1_basket_102 : mStepO h k cX1_basket bl Q Y (102, lv, st, σ) = (Y (104, lv, .int (12) :: st, σ)) := by rw [mStep_d dX1_basket_102, ← mx_b12]; rfl
theorem vX1_basket_104 : mStepO h k cX1_basket bl Q Y (104, lv, st, σ) = (mLdI Y 105 lv st σ 1) := mStep_d dX1_basket_104
theorem vX1_basket_105 : mStepO h k cX1_basket bl Q Y (105, lv, st, σ) = (mBin Y 106 lv st σ (fun x y => x * y)) := mStep_d dX1_basket_105
theorem vX1_basket_106 : mStepO h k cX1_basket bl Q Y (106, lv, st, σ) = (mLdI Y 107 lv st σ 3) := mStep_d dX1_basket_106
theorem vX1_basket_107 : mStepO h k cX1_basket bl Q Y (107, lv, st, σ) = (mBin Y 108 lv st σ (fun x y => x + y)) := mStep_d dX1_basket_107
theorem vX1_basket_108 : mStepO h k cX1_basket bl Q Y (108, lv, st, σ) = (Y (109, lv, .int (0) :: st, σ)) := by rw [mStep_d dX1_basket_108, ← mx_c0]; rfl
theorem vX1_basket_109 : mStepO h k cX1_basket bl Q Y (109, lv, st, σ) = (mStE h Y 110 lv st σ) := mStep_d dX1_basket_109
theorem vX1_basket_110 : mStepO h k cX1_basket bl Q Y (110, lv, st, σ) = (mLdA Y 111 lv st σ 0) := mStep_d dX1_basket_110
theorem vX1_basket_111 : mStepO h k cX1_basket bl Q Y (111, lv, st, σ) = (mGet h k Y 114 lv st σ 47) := mStep_d dX1_basket_111
theorem vX1_basket_114 : mStepO h k cX1_basket bl Q Y (114, lv, st, σ) = (Y (116, lv, .int (12) :: st, σ)) := by rw [mStep_d dX1_basket_114, ← mx_b12]; rfl
theorem vX1_basket_116 : mStepO h k cX1_basket bl Q Y (116, lv, st, σ) = (mLdI Y 117 lv st σ 1) := mStep_d dX1_basket_116
theorem vX1_basket_117 : mStepO h k cX1_basket bl Q Y (117, lv, st, σ) = (mBin Y 118 lv st σ (fun x y => x * y)) := mStep_d dX1_basket_117
theorem vX1_basket_118 : mStepO h k cX1_basket bl Q Y (118, lv, st, σ) = (mLdI Y 119 lv st σ 3) := mStep_d dX1_basket_118
theorem vX1_basket_119 : mStepO h k cX1_basket bl Q Y (119, lv, st, σ) = (mBin Y 120 lv st σ (fun x y => x + y)) := mStep_d dX1_basket_119
theorem vX1_basket_120 : mStepO h k cX1_basket bl Q Y (120, lv, st, σ) = (Y (121, lv, .int (0) :: st, σ)) := by rw [mStep_d dX1_basket_120, ← mx_c0]; rfl
theorem vX1_basket_121 : mStepO h k cX1_basket bl Q Y (121, lv, st, σ) = (mStE h Y 122 lv st σ) := mStep_d dX1_basket_121
theorem vX1_basket_122 : mStepO h k cX1_basket bl Q Y (122, lv, st, σ) = (mInc Y 125 lv st σ 3 (1)) := by rw [mStep_d dX1_basket_122, ← mx_c1]; rfl
theorem vX1_basket_125 : mStepO h k cX1_basket bl Q Y (125, lv, st, σ) = (Y (79, lv, st, σ)) := (mStep_d dX1_basket_125).trans (mJ_J jt_125_m46 jp_125_m46)
theorem vX1_basket_128 : mStepO h k cX1_basket bl Q Y (128, lv, st, σ) = (mLdA Y 129 lv st σ 0) := mStep_d dX1_basket_128
theorem vX1_basket_129 : mStepO h k cX1_basket bl Q Y (129, lv, st, σ) = (mGet h k Y 132 lv st σ 73) := mStep_d dX1_basket_129
theorem vX1_basket_132 : mStepO h k cX1_basket bl Q Y (132, lv, st, σ) = (Y (133, lv, .int (1) :: st, σ)) := by rw [mStep_d dX1_basket_132, ← mx_c1]; rfl
theorem vX1_basket_133 : mStepO h k cX1_basket bl Q Y (133, lv, st, σ) = (mBin Y 134 lv st σ (fun x y => x - y)) := mStep_d dX1_basket_133
theorem vX1_basket_134 : mStepO h k cX1_basket bl Q Y (134, lv, st, σ) = (mRetI bl Q st σ) := mStep_d dX1_basket_134
theorem vX1_goes_0 : mStepO h k cX1_goes bl Q Y (0, lv, st, σ) = (mLdA Y 1 lv st σ 0) := mStep_d dX1_goes_0
theorem vX1_goes_1 : mStepO h k cX1_goes bl Q Y (1, lv, st, σ) = (mDup Y 2 lv st σ) := mStep_d dX1_goes_1
theorem vX1_goes_2 : mStepO h k cX1_goes bl Q Y (2, lv, st, σ) = (mGet h k Y 5 lv st σ 73) := mStep_d dX1_goes_2
theorem vX1_goes_5 : mStepO h k cX1_goes bl Q Y (5, lv, st, σ) = (Y (6, lv, .int (1) :: st, σ)) := by rw [mStep_d dX1_goes_5, ← mx_c1]; rfl
theorem vX1_goes_6 : mStepO h k cX1_goes bl Q Y (6, lv, st, σ) = (mBin Y 7 lv st σ (fun x y => x - y)) := mStep_d dX1_goes_6
theorem vX1_goes_7 : mStepO h k cX1_goes bl Q Y (7, lv, st, σ) = (mPut h k Y 10 lv st σ 73) := mStep_d dX1_goes_7
theorem vX1_goes_10 : mStepO h k cX1_goes bl Q Y (10, lv, st, σ) = (mLdI Y 11 lv st σ 1) := mStep_d dX1_goes_10
theorem vX1_goes_11 : mStepO h k cX1_goes bl Q Y (11, lv, st, σ) = (mStI Y 12 lv st σ 2) := mStep_d dX1_goes_11
theorem vX1_goes_12 : mStepO h k cX1_goes bl Q Y (12, lv, st, σ) = (mLdI Y 13 lv st σ 2) := mStep_d dX1_goes_12
theorem vX1_goes_13 : mStepO h k cX1_goes bl Q Y (13, lv, st, σ) = (mLdA Y 14 lv st σ 0) := mStep_d dX1_goes_13
theorem vX1_goes_14 : mStepO h k cX1_goes bl Q Y (14, lv, st, σ) = (mGet h k Y 17 lv st σ 73) := mStep_d dX1_goes_14
theorem vX1_goes_17 : mStepO h k cX1_goes bl Q Y (17, lv, st, σ) = (mJ2 Y 68 20 lv st σ (fun x y => y ≤ x)) := (mStep_d dX1_goes_17).trans (mIf2_J jt_17_51 jp_17_51)
theorem vX1_goes_20 : mStepO h k cX1_goes bl Q Y (20, lv, st, σ) = (mLdA Y 21 lv st σ 0) := mStep_d dX1_goes_20
theorem vX1_goes_21 : mStepO h k cX1_goes bl Q Y (21, lv, st, σ) = (mGet h k Y 24 lv st σ 32) := mStep_d dX1_goes_21
theorem vX1_goes_24 : mStepO h k cX1_goes bl Q Y (24, lv, st, σ) = (mLdI Y 25 lv st σ 2) := mStep_d dX1_goes_24
theorem vX1_goes_25 : mStepO h k cX1_goes bl Q Y (25, lv, st, σ) = (mLdA Y 26 lv st σ 0) := mStep_d dX1_goes_25
theorem vX1_goes_26 : mStepO h k cX1_goes bl Q Y (26, lv, st, σ) = (mGet h k Y 29 lv st σ 32) := mStep_d dX1_goes_26
theorem vX1_goes_29 : mStepO h k cX1_goes bl Q Y (29, lv, st, σ) = (mLdI Y 30 lv st σ 2) := mStep_d dX1_goes_29
theorem vX1_goes_30 : mStepO h k cX1_goes bl Q Y (30, lv, st, σ) = (Y (31, lv, .int (1) :: st, σ)) := by rw [mStep_d dX1_goes_30, ← mx_c1]; rfl
theorem vX1_goes_31 : mStepO h k cX1_goes bl Q Y (31, lv, st, σ) = (mBin Y 32 lv st σ (fun x y => x + y)) := mStep_d dX1_goes_31
theorem vX1_goes_32 : mStepO h k cX1_goes bl Q Y (32, lv, st, σ) = (mLdE h Y 33 lv st σ) := mStep_d dX1_goes_32
theorem vX1_goes_33 : mStepO h k cX1_goes bl Q Y (33, lv, st, σ) = (mStE h Y 34 lv st σ) := mStep_d dX1_goes_33
theorem vX1_goes_34 : mStepO h k cX1_goes bl Q Y (34, lv, st, σ) = (mLdA Y 35 lv st σ 0) := mStep_d dX1_goes_34
theorem vX1_goes_35 : mStepO h k cX1_goes bl Q Y (35, lv, st, σ) = (mGet h k Y 38 lv st σ 35) := mStep_d dX1_goes_35
theorem vX1_goes_38 : mStepO h k cX1_goes bl Q Y (38, lv, st, σ) = (mLdI Y 39 lv st σ 2) := mStep_d dX1_goes_38
theorem vX1_goes_39 : mStepO h k cX1_goes bl Q Y (39, lv, st, σ) = (mLdA Y 40 lv st σ 0) := mStep_d dX1_goes_39
theorem vX1_goes_40 : mStepO h k cX1_goes bl Q Y (40, lv, st, σ) = (mGet h k Y 43 lv st σ 35) := mStep_d dX1_goes_40
theorem vX1_goes_43 : mStepO h k cX1_goes bl Q Y (43, lv, st, σ) = (mLdI Y 44 lv st σ 2) := mStep_d dX1_goes_43
theorem vX1_goes_44 : mStepO h k cX1_goes bl Q Y (44, lv, st, σ) = (Y (45, lv, .int (1) :: st, σ)) := by rw [mStep_d dX1_goes_44, ← mx_c1]; rfl
theorem vX1_goes_45 : mStepO h k cX1_goes bl Q Y (45, lv, st, σ) = (mBin Y 46 lv st σ (fun x y => x + y)) := mStep_d dX1_goes_45
theorem vX1_goes_46 : mStepO h k cX1_goes bl Q Y (46, lv, st, σ) = (mLdE h Y 47 lv st σ) := mStep_d dX1_goes_46
theorem vX1_goes_47 : mStepO h k cX1_goes bl Q Y (47, lv, st, σ) = (mStE h Y 48 lv st σ) := mStep_d dX1_goes_47
theorem vX1_goes_48 : mStepO h k cX1_goes bl Q Y (48, lv, st, σ) = (mLdA Y 49 lv st σ 0) := mStep_d dX1_goes_48
theorem vX1_goes_49 : mStepO h k cX1_goes bl Q Y (49, lv, st, σ) = (mGet h k Y 52 lv st σ 38) := mStep_d dX1_goes_49
theorem vX1_goes_52 : mStepO h k cX1_goes bl Q Y (52, lv, st, σ) = (mLdI Y 53 lv st σ 2) := mStep_d dX1_goes_52
theorem vX1_goes_53 : mStepO h k cX1_goes bl Q Y (53, lv, st, σ) = (mLdA Y 54 lv st σ 0) := mStep_d dX1_goes_53
theorem vX1_goes_54 : mStepO h k cX1_goes bl Q Y (54, lv, st, σ) = (mGet h k Y 57 lv st σ 38) := mStep_d dX1_goes_54
theorem vX1_goes_57 : mStepO h k cX1_goes bl Q Y (57, lv, st, σ) = (mLdI Y 58 lv st σ 2) := mStep_d dX1_goes_57
theorem vX1_goes_58 : mStepO h k cX1_goes bl Q Y (58, lv, st, σ) = (Y (59, lv, .int (1) :: st, σ)) := by rw [mStep_d dX1_goes_58, ← mx_c1]; rfl
theorem vX1_goes_59 : mStepO h k cX1_goes bl Q Y (59, lv, st, σ) = (mBin Y 60 lv st σ (fun x y => x + y)) := mStep_d dX1_goes_59
theorem vX1_goes_60 : mStepO h k cX1_goes bl Q Y (60, lv, st, σ) = (mLdE h Y 61 lv st σ) := mStep_d dX1_goes_60
theorem vX1_goes_61 : mStepO h k cX1_goes bl Q Y (61, lv, st, σ) = (mStE h Y 62 lv st σ) := mStep_d dX1_goes_61
theorem vX1_goes_62 : mStepO h k cX1_goes bl Q Y (62, lv, st, σ) = (mInc Y 65 lv st σ 2 (1)) := by rw [mStep_d dX1_goes_62, ← mx_c1]; rfl
theorem vX1_goes_65 : mStepO h k cX1_goes bl Q Y (65, lv, st, σ) = (Y (12, lv, st, σ)) := (mStep_d dX1_goes_65).trans (mJ_J jt_65_m53 jp_65_m53)
theorem vX1_goes_68 : mStepO h k cX1_goes bl Q Y (68, lv, st, σ) = (mRetV bl Q st σ) := mStep_d dX1_goes_68
theorem vX1_drop_0 : mStepO h k cX1_drop bl Q Y (0, lv, st, σ) = (mLdI Y 1 lv st σ 1) := mStep_d dX1_drop_0
theorem vX1_drop_1 : mStepO h k cX1_drop bl Q Y (1, lv, st, σ) = (Y (2, lv, .int (0) :: st, σ)) := by rw [mStep_d dX1_drop_1, ← mx_c0]; rfl
theorem vX1_drop_2 : mStepO h k cX1_drop bl Q Y (2, lv, st, σ) = (mLdA Y 3 lv st σ 0) := mStep_d dX1_drop_2
theorem vX1_drop_3 : mStepO h k cX1_drop bl Q Y (3, lv, st, σ) = (mGet h k Y 6 lv st σ 73) := mStep_d dX1_drop_3
theorem vX1_drop_6 : mStepO h k cX1_drop bl Q Y (6, lv, st, σ) = (Y (7, lv, .int (1) :: st, σ)) := by rw [mStep_d dX1_drop_6, ← mx_c1]; rfl
theorem vX1_drop_7 : mStepO h k cX1_drop bl Q Y (7, lv, st, σ) = (mBin Y 8 lv st σ (fun x y => x - y)) := mStep_d dX1_drop_7
theorem vX1_drop_8 : mStepO h k cX1_drop bl Q Y (8, lv, st, σ) = (mCaS k Y 11 lv st σ 56) := mStep_d dX1_drop_8
theorem vX1_drop_11 : mStepO h k cX1_drop bl Q Y (11, lv, st, σ) = (mN1 Y 16 14 lv st σ) := (mStep_d dX1_drop_11).trans (mIfN1_J jt_11_5 jp_11_5)
theorem vX1_drop_14 : mStepO h k cX1_drop bl Q Y (14, lv, st, σ) = (Y (15, lv, .int (0) :: st, σ)) := by rw [mStep_d dX1_drop_14, ← mx_c0]; rfl
theorem vX1_drop_15 : mStepO h k cX1_drop bl Q Y (15, lv, st, σ) = (mRetI bl Q st σ) := mStep_d dX1_drop_15
theorem vX1_drop_16 : mStepO h k cX1_drop bl Q Y (16, lv, st, σ) = (mLdA Y 17 lv st σ 0) := mStep_d dX1_drop_16
theorem vX1_drop_17 : mStepO h k cX1_drop bl Q Y (17, lv, st, σ) = (mLdI Y 18 lv st σ 1) := mStep_d dX1_drop_17
theorem vX1_drop_18 : mStepO h k cX1_drop bl Q Y (18, lv, st, σ) = (mCaV k Y 21 lv st σ 76) := mStep_d dX1_drop_18
theorem vX1_drop_21 : mStepO h k cX1_drop bl Q Y (21, lv, st, σ) = (Y (22, lv, .int (1) :: st, σ)) := by rw [mStep_d dX1_drop_21, ← mx_c1]; rfl
theorem vX1_drop_22 : mStepO h k cX1_drop bl Q Y (22, lv, st, σ) = (mRetI bl Q st σ) := mStep_d dX1_drop_22
theorem vX1_forget_0 : mStepO h k cX1_forget bl Q Y (0, lv, st, σ) = (mLdI Y 1 lv st σ 1) := mStep_d dX1_forget_0
theorem vX1_forget_1 : mStepO h k cX1_forget bl Q Y (1, lv, st, σ) = (mCaS k Y 4 lv st σ 70) := mStep_d dX1_forget_1
theorem vX1_forget_4 : mStepO h k cX1_forget bl Q Y (4, lv, st, σ) = (mN1 Y 9 7 lv st σ) := (mStep_d dX1_forget_4).trans (mIfN1_J jt_4_5 jp_4_5)
theorem vX1_forget_7 : mStepO h k cX1_forget bl Q Y (7, lv, st, σ) = (Y (8, lv, .int (-1) :: st, σ)) := by rw [mStep_d dX1_forget_7, ← mx_cm1]; rfl
theorem vX1_forget_8 : mStepO h k cX1_forget bl Q Y (8, lv, st, σ) = (mRetI bl Q st σ) := mStep_d dX1_forget_8
theorem vX1_forget_9 : mStepO h k cX1_forget bl Q Y (9, lv, st, σ) = (Y (10, lv, .int (0) :: st, σ)) := by rw [mStep_d dX1_forget_9, ← mx_c0]; rfl
theorem vX1_forget_10 : mStepO h k cX1_forget bl Q Y (10, lv, st, σ) = (mStI Y 11 lv st σ 2) := mStep_d dX1_forget_10
theorem vX1_forget_11 : mStepO h k cX1_forget bl Q Y (11, lv, st, σ) = (mLdA Y 12 lv st σ 0) := mStep_d dX1_forget_11
theorem vX1_forget_12 : mStepO h k cX1_forget bl Q Y (12, lv, st, σ) = (mGet h k Y 15 lv st σ 73) := mStep_d dX1_forget_12
theorem vX1_forget_15 : mStepO h k cX1_forget bl Q Y (15, lv, st, σ) = (Y (16, lv, .int (1) :: st, σ)) := by rw [mStep_d dX1_forget_15, ← mx_c1]; rfl
theorem vX1_forget_16 : mStepO h k cX1_forget bl Q Y (16, lv, st, σ) = (mBin Y 17 lv st σ (fun x y => x - y)) := mStep_d dX1_forget_16
theorem vX1_forget_17 : mStepO h k cX1_forget bl Q Y (17, lv, st, σ) = (mStI Y 18 lv st σ 3) := mStep_d dX1_forget_17
theorem vX1_forget_18 : mStepO h k cX1_forget bl Q Y (18, lv, st, σ) = (mLdI Y 19 lv st σ 3) := mStep_d dX1_forget_18
theorem vX1_forget_19 : mStepO h k cX1_forget bl Q Y (19, lv, st, σ) = (mJ1 Y 49 22 lv st σ (fun x => x < 0)) := (mStep_d dX1_forget_19).trans (mIf1_J jt_19_30 jp_19_30)
theorem vX1_forget_22 : mStepO h k cX1_forget bl Q Y (22, lv, st, σ) = (mLdA Y 23 lv st σ 0) := mStep_d dX1_forget_22
theorem vX1_forget_23 : mStepO h k cX1_forget bl Q Y (23, lv, st, σ) = (mGet h k Y 26 lv st σ 32) := mStep_d dX1_forget_23
theorem vX1_forget_26 : mStepO h k cX1_forget bl Q Y (26, lv, st, σ) = (mLdI Y 27 lv st σ 3) := mStep_d dX1_forget_26
theorem vX1_forget_27 : mStepO h k cX1_forget bl Q Y (27, lv, st, σ) = (mLdE h Y 28 lv st σ) := mStep_d dX1_forget_27
theorem vX1_forget_28 : mStepO h k cX1_forget bl Q Y (28, lv, st, σ) = (mLdI Y 29 lv st σ 1) := mStep_d dX1_forget_28
theorem vX1_forget_29 : mStepO h k cX1_forget bl Q Y (29, lv, st, σ) = (mJ2 Y 35 32 lv st σ (fun x y => x = y)) := (mStep_d dX1_forget_29).trans (mIf2_J jt_29_6 jp_29_6)
theorem vX1_forget_32 : mStepO h k cX1_forget bl Q Y (32, lv, st, σ) = (Y (43, lv, st, σ)) := (mStep_d dX1_forget_32).trans (mJ_J jt_32_11 jp_32_11)
theorem vX1_forget_35 : mStepO h k cX1_forget bl Q Y (35, lv, st, σ) = (mLdA Y 36 lv st σ 0) := mStep_d dX1_forget_35
theorem vX1_forget_36 : mStepO h k cX1_forget bl Q Y (36, lv, st, σ) = (mLdI Y 37 lv st σ 3) := mStep_d dX1_forget_36
theorem vX1_forget_37 : mStepO h k cX1_forget bl Q Y (37, lv, st, σ) = (mCaV k Y 40 lv st σ 76) := mStep_d dX1_forget_37
theorem vX1_forget_40 : mStepO h k cX1_forget bl Q Y (40, lv, st, σ) = (mInc Y 43 lv st σ 2 (1)) := by rw [mStep_d dX1_forget_40, ← mx_c1]; rfl
theorem vX1_forget_43 : mStepO h k cX1_forget bl Q Y (43, lv, st, σ) = (mInc Y 46 lv st σ 3 (-1)) := by rw [mStep_d dX1_forget_43, ← mx_cm1]; rfl
theorem vX1_forget_46 : mStepO h k cX1_forget bl Q Y (46, lv, st, σ) = (Y (18, lv, st, σ)) := (mStep_d dX1_forget_46).trans (mJ_J jt_46_m28 jp_46_m28)
theorem vX1_forget_49 : mStepO h k cX1_forget bl Q Y (49, lv, st, σ) = (mLdA Y 50 lv st σ 0) := mStep_d dX1_forget_49
theorem vX1_forget_50 : mStepO h k cX1_forget bl Q Y (50, lv, st, σ) = (mGet h k Y 53 lv st σ 41) := mStep_d dX1_forget_50
theorem vX1_forget_53 : mStepO h k cX1_forget bl Q Y (53, lv, st, σ) = (mLdI Y 54 lv st σ 1) := mStep_d dX1_forget_53
theorem vX1_forget_54 : mStepO h k cX1_forget bl Q Y (54, lv, st, σ) = (Y (55, lv, .int (0) :: st, σ)) := by rw [mStep_d dX1_forget_54, ← mx_c0]; rfl
theorem vX1_forget_55 : mStepO h k cX1_forget bl Q Y (55, lv, st, σ) = (mStE h Y 56 lv st σ) := mStep_d dX1_forget_55
theorem vX1_forget_56 : mStepO h k cX1_forget bl Q Y (56, lv, st, σ) = (Y (57, lv, .int (0) :: st, σ)) := by rw [mStep_d dX1_forget_56, ← mx_c0]; rfl
theorem vX1_forget_57 : mStepO h k cX1_forget bl Q Y (57, lv, st, σ) = (mStI Y 58 lv st σ 3) := mStep_d dX1_forget_57
theorem vX1_forget_58 : mStepO h k cX1_forget bl Q Y (58, lv, st, σ) = (mLdI Y 59 lv st σ 3) := mStep_d dX1_forget_58
theorem vX1_forget_59 : mStepO h k cX1_forget bl Q Y (59, lv, st, σ) = (Y (61, lv, .int (12) :: st, σ)) := by rw [mStep_d dX1_forget_59, ← mx_b12]; rfl
theorem vX1_forget_61 : mStepO h k cX1_forget bl Q Y (61, lv, st, σ) = (mJ2 Y 94 64 lv st σ (fun x y => y ≤ x)) := (mStep_d dX1_forget_61).trans (mIf2_J jt_61_33 jp_61_33)
theorem vX1_forget_64 : mStepO h k cX1_forget bl Q Y (64, lv, st, σ) = (mLdA Y 65 lv st σ 0) := mStep_d dX1_forget_64
theorem vX1_forget_65 : mStepO h k cX1_forget bl Q Y (65, lv, st, σ) = (mGet h k Y 68 lv st σ 44) := mStep_d dX1_forget_65
theorem vX1_forget_68 : mStepO h k cX1_forget bl Q Y (68, lv, st, σ) = (Y (70, lv, .int (12) :: st, σ)) := by rw [mStep_d dX1_forget_68, ← mx_b12]; rfl
theorem vX1_forget_70 : mStepO h k cX1_forget bl Q Y (70, lv, st, σ) = (mLdI Y 71 lv st σ 1) := mStep_d dX1_forget_70
theorem vX1_forget_71 : mStepO h k cX1_forget bl Q Y (71, lv, st, σ) = (mBin Y 72 lv st σ (fun x y => x * y)) := mStep_d dX1_forget_71
theorem vX1_forget_72 : mStepO h k cX1_forget bl Q Y (72, lv, st, σ) = (mLdI Y 73 lv st σ 3) := mStep_d dX1_forget_72
theorem vX1_forget_73 : mStepO h k cX1_forget bl Q Y (73, lv, st, σ) = (mBin Y 74 lv st σ (fun x y => x + y)) := mStep_d dX1_forget_73
theorem vX1_forget_74 : mStepO h k cX1_forget bl Q Y (74, lv, st, σ) = (Y (75, lv, .int (0) :: st, σ)) := by rw [mStep_d dX1_forget_74, ← mx_c0]; rfl
theorem vX1_forget_75 : mStepO h k cX1_forget bl Q Y (75, lv, st, σ) = (mStE h Y 76 lv st σ) := mStep_d dX1_forget_75
theorem vX1_forget_76 : mStepO h k cX1_forget bl Q Y (76, lv, st, σ) = (mLdA Y 77 lv st σ 0) := mStep_d dX1_forget_76
theorem vX1_forget_77 : mStepO h k cX1_forget bl Q Y (77, lv, st, σ) = (mGet h k Y 80 lv st σ 47) := mStep_d dX1_forget_77
theorem vX1_forget_80 : mStepO h k cX1_forget bl Q Y (80, lv, st, σ) = (Y (82, lv, .int (12) :: st, σ)) := by rw [mStep_d dX1_forget_80, ← mx_b12]; rfl
theorem vX1_forget_82 : mStepO h k cX1_forget bl Q Y (82, lv, st, σ) = (mLdI Y 83 lv st σ 1) := mStep_d dX1_forget_82
theorem vX1_forget_83 : mStepO h k cX1_forget bl Q Y (83, lv, st, σ) = (mBin Y 84 lv st σ (fun x y => x * y)) := mStep_d dX1_forget_83
theorem vX1_forget_84 : mStepO h k cX1_forget bl Q Y (84, lv, st, σ) = (mLdI Y 85 lv st σ 3) := mStep_d dX1_forget_84
theorem vX1_forget_85 : mStepO h k cX1_forget bl Q Y (85, lv, st, σ) = (mBin Y 86 lv st σ (fun x y => x + y)) := mStep_d dX1_forget_85
theorem vX1_forget_86 : mStepO h k cX1_forget bl Q Y (86, lv, st, σ) = (Y (87, lv, .int (0) :: st, σ)) := by rw [mStep_d dX1_forget_86, ← mx_c0]; rfl
theorem vX1_forget_87 : mStepO h k cX1_forget bl Q Y (87, lv, st, σ) = (mStE h Y 88 lv st σ) := mStep_d dX1_forget_87
theorem vX1_forget_88 : mStepO h k cX1_forget bl Q Y (88, lv, st, σ) = (mInc Y 91 lv st σ 3 (1)) := by rw [mStep_d dX1_forget_88, ← mx_c1]; rfl
theorem vX1_forget_91 : mStepO h k cX1_forget bl Q Y (91, lv, st, σ) = (Y (58, lv, st, σ)) := (mStep_d dX1_forget_91).trans (mJ_J jt_91_m33 jp_91_m33)
theorem vX1_forget_94 : mStepO h k cX1_forget bl Q Y (94, lv, st, σ) = (mLdI Y 95 lv st σ 2) := mStep_d dX1_forget_94
theorem vX1_forget_95 : mStepO h k cX1_forget bl Q Y (95, lv, st, σ) = (mRetI bl Q st σ) := mStep_d dX1_forget_95
theorem vX1_day_0 : mStepO h k cX1_day bl Q Y (0, lv, st, σ) = (mLdA Y 1 lv st σ 0) := mStep_d dX1_day_0
theorem vX1_day_1 : mStepO h k cX1_day bl Q Y (1, lv, st, σ) = (mGet h k Y 4 lv st σ 60) := mStep_d dX1_day_1
theorem vX1_day_4 : mStepO h k cX1_day bl Q Y (4, lv, st, σ) = (Y (7, lv, .int (9999) :: st, σ)) := by rw [mStep_d dX1_day_4, ← mx_s9999]; rfl
theorem vX1_day_7 : mStepO h k cX1_day bl Q Y (7, lv, st, σ) = (mN2 Y 12 10 lv st σ) := (mStep_d dX1_day_7).trans (mIfN2_J jt_7_5 jp_7_5)
theorem vX1_day_10 : mStepO h k cX1_day bl Q Y (10, lv, st, σ) = (Y (11, lv, .int (-1) :: st, σ)) := by rw [mStep_d dX1_day_10, ← mx_cm1]; rfl
theorem vX1_day_11 : mStepO h k cX1_day bl Q Y (11, lv, st, σ) = (mRetI bl Q st σ) := mStep_d dX1_day_11
theorem vX1_day_12 : mStepO h k cX1_day bl Q Y (12, lv, st, σ) = (mLdA Y 13 lv st σ 0) := mStep_d dX1_day_12
theorem vX1_day_13 : mStepO h k cX1_day bl Q Y (13, lv, st, σ) = (mDup Y 14 lv st σ) := mStep_d dX1_day_13
theorem vX1_day_14 : mStepO h k cX1_day bl Q Y (14, lv, st, σ) = (mGet h k Y 17 lv st σ 60) := mStep_d dX1_day_14
theorem vX1_day_17 : mStepO h k cX1_day bl Q Y (17, lv, st, σ) = (Y (18, lv, .int (1) :: st, σ)) := by rw [mStep_d dX1_day_17, ← mx_c1]; rfl
theorem vX1_day_18 : mStepO h k cX1_day bl Q Y (18, lv, st, σ) = (mBin Y 19 lv st σ (fun x y => x + y)) := mStep_d dX1_day_18
theorem vX1_day_19 : mStepO h k cX1_day bl Q Y (19, lv, st, σ) = (mPut h k Y 22 lv st σ 60) := mStep_d dX1_day_19
theorem vX1_day_22 : mStepO h k cX1_day bl Q Y (22, lv, st, σ) = (mLdA Y 23 lv st σ 0) := mStep_d dX1_day_22
theorem vX1_day_23 : mStepO h k cX1_day bl Q Y (23, lv, st, σ) = (mGet h k Y 26 lv st σ 73) := mStep_d dX1_day_23
theorem vX1_day_26 : mStepO h k cX1_day bl Q Y (26, lv, st, σ) = (Y (27, lv, .int (1) :: st, σ)) := by rw [mStep_d dX1_day_26, ← mx_c1]; rfl
theorem vX1_day_27 : mStepO h k cX1_day bl Q Y (27, lv, st, σ) = (mBin Y 28 lv st σ (fun x y => x - y)) := mStep_d dX1_day_27
theorem vX1_day_28 : mStepO h k cX1_day bl Q Y (28, lv, st, σ) = (mStI Y 29 lv st σ 1) := mStep_d dX1_day_28
theorem vX1_day_29 : mStepO h k cX1_day bl Q Y (29, lv, st, σ) = (mLdI Y 30 lv st σ 1) := mStep_d dX1_day_29
theorem vX1_day_30 : mStepO h k cX1_day bl Q Y (30, lv, st, σ) = (mJ1 Y 60 33 lv st σ (fun x => x < 0)) := (mStep_d dX1_day_30).trans (mIf1_J jt_30_30 jp_30_30)
theorem vX1_day_33 : mStepO h k cX1_day bl Q Y (33, lv, st, σ) = (mLdA Y 34 lv st σ 0) := mStep_d dX1_day_33
theorem vX1_day_34 : mStepO h k cX1_day bl Q Y (34, lv, st, σ) = (mGet h k Y 37 lv st σ 60) := mStep_d dX1_day_34
theorem vX1_day_37 : mStepO h k cX1_day bl Q Y (37, lv, st, σ) = (mLdA Y 38 lv st σ 0) := mStep_d dX1_day_37
theorem vX1_day_38 : mStepO h k cX1_day bl Q Y (38, lv, st, σ) = (mGet h k Y 41 lv st σ 35) := mStep_d dX1_day_38
theorem vX1_day_41 : mStepO h k cX1_day bl Q Y (41, lv, st, σ) = (mLdI Y 42 lv st σ 1) := mStep_d dX1_day_41
theorem vX1_day_42 : mStepO h k cX1_day bl Q Y (42, lv, st, σ) = (mLdE h Y 43 lv st σ) := mStep_d dX1_day_42
theorem vX1_day_43 : mStepO h k cX1_day bl Q Y (43, lv, st, σ) = (mBin Y 44 lv st σ (fun x y => x - y)) := mStep_d dX1_day_43
theorem vX1_day_44 : mStepO h k cX1_day bl Q Y (44, lv, st, σ) = (Y (46, lv, .int (28) :: st, σ)) := by rw [mStep_d dX1_day_44, ← mx_b28]; rfl
theorem vX1_day_46 : mStepO h k cX1_day bl Q Y (46, lv, st, σ) = (mJ2 Y 54 49 lv st σ (fun x y => x < y)) := (mStep_d dX1_day_46).trans (mIf2_J jt_46_8 jp_46_8)
theorem vX1_day_49 : mStepO h k cX1_day bl Q Y (49, lv, st, σ) = (mLdA Y 50 lv st σ 0) := mStep_d dX1_day_49
theorem vX1_day_50 : mStepO h k cX1_day bl Q Y (50, lv, st, σ) = (mLdI Y 51 lv st σ 1) := mStep_d dX1_day_50
theorem vX1_day_51 : mStepO h k cX1_day bl Q Y (51, lv, st, σ) = (mCaV k Y 54 lv st σ 76) := mStep_d dX1_day_51
theorem vX1_day_54 : mStepO h k cX1_day bl Q Y (54, lv, st, σ) = (mInc Y 57 lv st σ 1 (-1)) := by rw [mStep_d dX1_day_54, ← mx_cm1]; rfl
theorem vX1_day_57 : mStepO h k cX1_day bl Q Y (57, lv, st, σ) = (Y (29, lv, st, σ)) := (mStep_d dX1_day_57).trans (mJ_J jt_57_m28 jp_57_m28)
theorem vX1_day_60 : mStepO h k cX1_day bl Q Y (60, lv, st, σ) = (mLdA Y 61 lv st σ 0) := mStep_d dX1_day_60
theorem vX1_day_61 : mStepO h k cX1_day bl Q Y (61, lv, st, σ) = (mGet h k Y 64 lv st σ 60) := mStep_d dX1_day_61
theorem vX1_day_64 : mStepO h k cX1_day bl Q Y (64, lv, st, σ) = (mRetI bl Q st σ) := mStep_d dX1_day_64
theorem vX1_news_0 : mStepO h k cX1_news bl Q Y (0, lv, st, σ) = (Y (1, lv, .int (0) :: st, σ)) := by rw [mStep_d dX1_news_0, ← mx_c0]; rfl
theorem vX1_news_1 : mStepO h k cX1_news bl Q Y (1, lv, st, σ) = (mStI Y 2 lv st σ 1) := mStep_d dX1_news_1
theorem vX1_news_2 : mStepO h k cX1_news bl Q Y (2, lv, st, σ) = (Y (3, lv, .int (0) :: st, σ)) := by rw [mStep_d dX1_news_2, ← mx_c0]; rfl
theorem vX1_news_3 : mStepO h k cX1_news bl Q Y (3, lv, st, σ) = (mStI Y 4 lv st σ 2) := mStep_d dX1_news_3
theorem vX1_news_4 : mStepO h k cX1_news bl Q Y (4, lv, st, σ) = (mLdI Y 5 lv st σ 2) := mStep_d dX1_news_4
theorem vX1_news_5 : mStepO h k cX1_news bl Q Y (5, lv, st, σ) = (mLdA Y 6 lv st σ 0) := mStep_d dX1_news_5
theorem vX1_news_6 : mStepO h k cX1_news bl Q Y (6, lv, st, σ) = (mGet h k Y 9 lv st σ 53) := mStep_d dX1_news_6
theorem vX1_news_9 : mStepO h k cX1_news bl Q Y (9, lv, st, σ) = (mJ2 Y 44 12 lv st σ (fun x y => y ≤ x)) := (mStep_d dX1_news_9).trans (mIf2_J jt_9_35 jp_9_35)
theorem vX1_news_12 : mStepO h k cX1_news bl Q Y (12, lv, st, σ) = (mLdI Y 13 lv st σ 1) := mStep_d dX1_news_12
theorem vX1_news_13 : mStepO h k cX1_news bl Q Y (13, lv, st, σ) = (mLdA Y 14 lv st σ 0) := mStep_d dX1_news_13
theorem vX1_news_14 : mStepO h k cX1_news bl Q Y (14, lv, st, σ) = (mGet h k Y 17 lv st σ 60) := mStep_d dX1_news_14
theorem vX1_news_17 : mStepO h k cX1_news bl Q Y (17, lv, st, σ) = (mLdA Y 18 lv st σ 0) := mStep_d dX1_news_17
theorem vX1_news_18 : mStepO h k cX1_news bl Q Y (18, lv, st, σ) = (mGet h k Y 21 lv st σ 26) := mStep_d dX1_news_18
theorem vX1_news_21 : mStepO h k cX1_news bl Q Y (21, lv, st, σ) = (mLdI Y 22 lv st σ 2) := mStep_d dX1_news_21
theorem vX1_news_22 : mStepO h k cX1_news bl Q Y (22, lv, st, σ) = (mLdE h Y 23 lv st σ) := mStep_d dX1_news_22
theorem vX1_news_23 : mStepO h k cX1_news bl Q Y (23, lv, st, σ) = (mBin Y 24 lv st σ (fun x y => x - y)) := mStep_d dX1_news_23
theorem vX1_news_24 : mStepO h k cX1_news bl Q Y (24, lv, st, σ) = (Y (26, lv, .int (10) :: st, σ)) := by rw [mStep_d dX1_news_24, ← mx_b10]; rfl
theorem vX1_news_26 : mStepO h k cX1_news bl Q Y (26, lv, st, σ) = (mJ2 Y 35 29 lv st σ (fun x y => y ≤ x)) := (mStep_d dX1_news_26).trans (mIf2_J jt_26_9 jp_26_9)
theorem vX1_news_29 : mStepO h k cX1_news bl Q Y (29, lv, st, σ) = (Y (30, lv, .int (1) :: st, σ)) := by rw [mStep_d dX1_news_29, ← mx_c1]; rfl
theorem vX1_news_30 : mStepO h k cX1_news bl Q Y (30, lv, st, σ) = (mLdI Y 31 lv st σ 2) := mStep_d dX1_news_30
theorem vX1_news_31 : mStepO h k cX1_news bl Q Y (31, lv, st, σ) = (mBin Y 32 lv st σ (fun x y => x <<< (y &&& 31))) := mStep_d dX1_news_31
theorem vX1_news_32 : mStepO h k cX1_news bl Q Y (32, lv, st, σ) = (Y (36, lv, st, σ)) := (mStep_d dX1_news_32).trans (mJ_J jt_32_4 jp_32_4)
theorem vX1_news_35 : mStepO h k cX1_news bl Q Y (35, lv, st, σ) = (Y (36, lv, .int (0) :: st, σ)) := by rw [mStep_d dX1_news_35, ← mx_c0]; rfl
theorem vX1_news_36 : mStepO h k cX1_news bl Q Y (36, lv, st, σ) = (mBin Y 37 lv st σ (fun x y => x ||| y)) := mStep_d dX1_news_36
theorem vX1_news_37 : mStepO h k cX1_news bl Q Y (37, lv, st, σ) = (mStI Y 38 lv st σ 1) := mStep_d dX1_news_37
theorem vX1_news_38 : mStepO h k cX1_news bl Q Y (38, lv, st, σ) = (mInc Y 41 lv st σ 2 (1)) := by rw [mStep_d dX1_news_38, ← mx_c1]; rfl
theorem vX1_news_41 : mStepO h k cX1_news bl Q Y (41, lv, st, σ) = (Y (4, lv, st, σ)) := (mStep_d dX1_news_41).trans (mJ_J jt_41_m37 jp_41_m37)
theorem vX1_news_44 : mStepO h k cX1_news bl Q Y (44, lv, st, σ) = (mLdI Y 45 lv st σ 1) := mStep_d dX1_news_44
theorem vX1_news_45 : mStepO h k cX1_news bl Q Y (45, lv, st, σ) = (mRetI bl Q st σ) := mStep_d dX1_news_45
theorem vX1_look_0 : mStepO h k cX1_look bl Q Y (0, lv, st, σ) = (mLdI Y 1 lv st σ 1) := mStep_d dX1_look_0
theorem vX1_look_1 : mStepO h k cX1_look bl Q Y (1, lv, st, σ) = (mTsw Y 1 lv st σ 96 0 8 [51, 56, 61, 66, 71, 76, 81, 86, 91]) := mStep_d dX1_look_1
theorem vX1_look_52 : mStepO h k cX1_look bl Q Y (52, lv, st, σ) = (mLdA Y 53 lv st σ 0) := mStep_d dX1_look_52
theorem vX1_look_53 : mStepO h k cX1_look bl Q Y (53, lv, st, σ) = (mGet h k Y 56 lv st σ 60) := mStep_d dX1_look_53
theorem vX1_look_56 : mStepO h k cX1_look bl Q Y (56, lv, st, σ) = (mRetI bl Q st σ) := mStep_d dX1_look_56
theorem vX1_look_57 : mStepO h k cX1_look bl Q Y (57, lv, st, σ) = (mLdA Y 58 lv st σ 0) := mStep_d dX1_look_57
theorem vX1_look_58 : mStepO h k cX1_look bl Q Y (58, lv, st, σ) = (mGet h k Y 61 lv st σ 53) := mStep_d dX1_look_58
theorem vX1_look_61 : mStepO h k cX1_look bl Q Y (61, lv, st, σ) = (mRetI bl Q st σ) := mStep_d dX1_look_61
theorem vX1_look_62 : mStepO h k cX1_look bl Q Y (62, lv, st, σ) = (mLdA Y 63 lv st σ 0) := mStep_d dX1_look_62
theorem vX1_look_63 : mStepO h k cX1_look bl Q Y (63, lv, st, σ) = (mGet h k Y 66 lv st σ 73) := mStep_d dX1_look_63
theorem vX1_look_66 : mStepO h k cX1_look bl Q Y (66, lv, st, σ) = (mRetI bl Q st σ) := mStep_d dX1_look_66
theorem vX1_look_67 : mStepO h k cX1_look bl Q Y (67, lv, st, σ) = (mLdA Y 68 lv st σ 0) := mStep_d dX1_look_67
theorem vX1_look_68 : mStepO h k cX1_look bl Q Y (68, lv, st, σ) = (mGet h k Y 71 lv st σ 7) := mStep_d dX1_look_68
theorem vX1_look_71 : mStepO h k cX1_look bl Q Y (71, lv, st, σ) = (mRetI bl Q st σ) := mStep_d dX1_look_71
theorem vX1_look_72 : mStepO h k cX1_look bl Q Y (72, lv, st, σ) = (mLdA Y 73 lv st σ 0) := mStep_d dX1_look_72
theorem vX1_look_73 : mStepO h k cX1_look bl Q Y (73, lv, st, σ) = (mGet h k Y 76 lv st σ 13) := mStep_d dX1_look_73
theorem vX1_look_76 : mStepO h k cX1_look bl Q Y (76, lv, st, σ) = (mRetI bl Q st σ) := mStep_d dX1_look_76
theorem vX1_look_77 : mStepO h k cX1_look bl Q Y (77, lv, st, σ) = (mLdA Y 78 lv st σ 0) := mStep_d dX1_look_77
theorem vX1_look_78 : mStepO h k cX1_look bl Q Y (78, lv, st, σ) = (mGet h k Y 81 lv st σ 16) := mStep_d dX1_look_78
theorem vX1_look_81 : mStepO h k cX1_look bl Q Y (81, lv, st, σ) = (mRetI bl Q st σ) := mStep_d dX1_look_81
theorem vX1_look_82 : mStepO h k cX1_look bl Q Y (82, lv, st, σ) = (mLdA Y 83 lv st σ 0) := mStep_d dX1_look_82
theorem vX1_look_83 : mStepO h k cX1_look bl Q Y (83, lv, st, σ) = (mGet h k Y 86 lv st σ 19) := mStep_d dX1_look_83
theorem vX1_look_86 : mStepO h k cX1_look bl Q Y (86, lv, st, σ) = (mRetI bl Q st σ) := mStep_d dX1_look_86
theorem vX1_look_87 : mStepO h k cX1_look bl Q Y (87, lv, st, σ) = (mLdA Y 88 lv st σ 0) := mStep_d dX1_look_87
theorem vX1_look_88 : mStepO h k cX1_look bl Q Y (88, lv, st, σ) = (mGet h k Y 91 lv st σ 63) := mStep_d dX1_look_88
theorem vX1_look_91 : mStepO h k cX1_look bl Q Y (91, lv, st, σ) = (mRetI bl Q st σ) := mStep_d dX1_look_91
theorem vX1_look_92 : mStepO h k cX1_look bl Q Y (92, lv, st, σ) = (mLdA Y 93 lv st σ 0) := mStep_d dX1_look_92
theorem vX1_look_93 : mStepO h k cX1_look bl Q Y (93, lv, st, σ) = (mCaV k Y 96 lv st σ 80) := mStep_d dX1_look_93
theorem vX1_look_96 : mStepO h k cX1_look bl Q Y (96, lv, st, σ) = (mRetI bl Q st σ) := mStep_d dX1_look_96
theorem vX1_look_97 : mStepO h k cX1_look bl Q Y (97, lv, st, σ) = (Y (98, lv, .int (-1) :: st, σ)) := by rw [mStep_d dX1_look_97, ← mx_cm1]; rfl
theorem vX1_look_98 : mStepO h k cX1_look bl Q Y (98, lv, st, σ) = (mRetI bl Q st σ) := mStep_d dX1_look_98
theorem vX1_of_0 : mStepO h k cX1_of bl Q Y (0, lv, st, σ) = (mLdI Y 1 lv st σ 1) := mStep_d dX1_of_0
theorem vX1_of_1 : mStepO h k cX1_of bl Q Y (1, lv, st, σ) = (Y (2, lv, .int (0) :: st, σ)) := by rw [mStep_d dX1_of_1, ← mx_c0]; rfl
theorem vX1_of_2 : mStepO h k cX1_of bl Q Y (2, lv, st, σ) = (mLdA Y 3 lv st σ 0) := mStep_d dX1_of_2
theorem vX1_of_3 : mStepO h k cX1_of bl Q Y (3, lv, st, σ) = (mGet h k Y 6 lv st σ 73) := mStep_d dX1_of_3
theorem vX1_of_6 : mStepO h k cX1_of bl Q Y (6, lv, st, σ) = (Y (7, lv, .int (1) :: st, σ)) := by rw [mStep_d dX1_of_6, ← mx_c1]; rfl
theorem vX1_of_7 : mStepO h k cX1_of bl Q Y (7, lv, st, σ) = (mBin Y 8 lv st σ (fun x y => x - y)) := mStep_d dX1_of_7
theorem vX1_of_8 : mStepO h k cX1_of bl Q Y (8, lv, st, σ) = (mCaS k Y 11 lv st σ 56) := mStep_d dX1_of_8
theorem vX1_of_11 : mStepO h k cX1_of bl Q Y (11, lv, st, σ) = (mN1 Y 16 14 lv st σ) := (mStep_d dX1_of_11).trans (mIfN1_J jt_11_5 jp_11_5)
theorem vX1_of_14 : mStepO h k cX1_of bl Q Y (14, lv, st, σ) = (Y (15, lv, .int (-1) :: st, σ)) := by rw [mStep_d dX1_of_14, ← mx_cm1]; rfl
theorem vX1_of_15 : mStepO h k cX1_of bl Q Y (15, lv, st, σ) = (mRetI bl Q st σ) := mStep_d dX1_of_15
theorem vX1_of_16 : mStepO h k cX1_of bl Q Y (16, lv, st, σ) = (mLdI Y 17 lv st σ 2) := mStep_d dX1_of_16
theorem vX1_of_17 : mStepO h k cX1_of bl Q Y (17, lv, st, σ) = (mN1 Y 29 20 lv st σ) := (mStep_d dX1_of_17).trans (mIfN1_J jt_17_12 jp_17_12)
theorem vX1_of_20 : mStepO h k cX1_of bl Q Y (20, lv, st, σ) = (mLdA Y 21 lv st σ 0) := mStep_d dX1_of_20
theorem vX1_of_21 : mStepO h k cX1_of bl Q Y (21, lv, st, σ) = (mGet h k Y 24 lv st σ 32) := mStep_d dX1_of_21
theorem vX1_of_24 : mStepO h k cX1_of bl Q Y (24, lv, st, σ) = (mLdI Y 25 lv st σ 1) := mStep_d dX1_of_24
theorem vX1_of_25 : mStepO h k cX1_of bl Q Y (25, lv, st, σ) = (mLdE h Y 26 lv st σ) := mStep_d dX1_of_25
theorem vX1_of_26 : mStepO h k cX1_of bl Q Y (26, lv, st, σ) = (Y (58, lv, st, σ)) := (mStep_d dX1_of_26).trans (mJ_J jt_26_32 jp_26_32)
theorem vX1_of_29 : mStepO h k cX1_of bl Q Y (29, lv, st, σ) = (mLdI Y 30 lv st σ 2) := mStep_d dX1_of_29
theorem vX1_of_30 : mStepO h k cX1_of bl Q Y (30, lv, st, σ) = (Y (31, lv, .int (1) :: st, σ)) := by rw [mStep_d dX1_of_30, ← mx_c1]; rfl
theorem vX1_of_31 : mStepO h k cX1_of bl Q Y (31, lv, st, σ) = (mN2 Y 43 34 lv st σ) := (mStep_d dX1_of_31).trans (mIfN2_J jt_31_12 jp_31_12)
theorem vX1_of_34 : mStepO h k cX1_of bl Q Y (34, lv, st, σ) = (mLdA Y 35 lv st σ 0) := mStep_d dX1_of_34
theorem vX1_of_35 : mStepO h k cX1_of bl Q Y (35, lv, st, σ) = (mGet h k Y 38 lv st σ 35) := mStep_d dX1_of_35
theorem vX1_of_38 : mStepO h k cX1_of bl Q Y (38, lv, st, σ) = (mLdI Y 39 lv st σ 1) := mStep_d dX1_of_38
theorem vX1_of_39 : mStepO h k cX1_of bl Q Y (39, lv, st, σ) = (mLdE h Y 40 lv st σ) := mStep_d dX1_of_39
theorem vX1_of_40 : mStepO h k cX1_of bl Q Y (40, lv, st, σ) = (Y (58, lv, st, σ)) := (mStep_d dX1_of_40).trans (mJ_J jt_40_18 jp_40_18)
theorem vX1_of_43 : mStepO h k cX1_of bl Q Y (43, lv, st, σ) = (mLdI Y 44 lv st σ 2) := mStep_d dX1_of_43
theorem vX1_of_44 : mStepO h k cX1_of bl Q Y (44, lv, st, σ) = (Y (45, lv, .int (2) :: st, σ)) := by rw [mStep_d dX1_of_44, ← mx_c2]; rfl
theorem vX1_of_45 : mStepO h k cX1_of bl Q Y (45, lv, st, σ) = (mN2 Y 57 48 lv st σ) := (mStep_d dX1_of_45).trans (mIfN2_J jt_45_12 jp_45_12)
theorem vX1_of_48 : mStepO h k cX1_of bl Q Y (48, lv, st, σ) = (mLdA Y 49 lv st σ 0) := mStep_d dX1_of_48
theorem vX1_of_49 : mStepO h k cX1_of bl Q Y (49, lv, st, σ) = (mGet h k Y 52 lv st σ 38) := mStep_d dX1_of_49
theorem vX1_of_52 : mStepO h k cX1_of bl Q Y (52, lv, st, σ) = (mLdI Y 53 lv st σ 1) := mStep_d dX1_of_52
theorem vX1_of_53 : mStepO h k cX1_of bl Q Y (53, lv, st, σ) = (mLdE h Y 54 lv st σ) := mStep_d dX1_of_53
theorem vX1_of_54 : mStepO h k cX1_of bl Q Y (54, lv, st, σ) = (Y (58, lv, st, σ)) := (mStep_d dX1_of_54).trans (mJ_J jt_54_4 jp_54_4)
theorem vX1_of_57 : mStepO h k cX1_of bl Q Y (57, lv, st, σ) = (Y (58, lv, .int (-1) :: st, σ)) := by rw [mStep_d dX1_of_57, ← mx_cm1]; rfl
theorem vX1_of_58 : mStepO h k cX1_of bl Q Y (58, lv, st, σ) = (mRetI bl Q st σ) := mStep_d dX1_of_58
theorem vX1_both_0 : mStepO h k cX1_both bl Q Y (0, lv, st, σ) = (Y (1, lv, .int (0) :: st, σ)) := by rw [mStep_d dX1_both_0, ← mx_c0]; rfl
theorem vX1_both_1 : mStepO h k cX1_both bl Q Y (1, lv, st, σ) = (mStI Y 2 lv st σ 3) := mStep_d dX1_both_1
theorem vX1_both_2 : mStepO h k cX1_both bl Q Y (2, lv, st, σ) = (Y (3, lv, .int (0) :: st, σ)) := by rw [mStep_d dX1_both_2, ← mx_c0]; rfl
theorem vX1_both_3 : mStepO h k cX1_both bl Q Y (3, lv, st, σ) = (mStI Y 5 lv st σ 4) := mStep_d dX1_both_3
theorem vX1_both_5 : mStepO h k cX1_both bl Q Y (5, lv, st, σ) = (mLdI Y 7 lv st σ 4) := mStep_d dX1_both_5
theorem vX1_both_7 : mStepO h k cX1_both bl Q Y (7, lv, st, σ) = (mLdA Y 8 lv st σ 0) := mStep_d dX1_both_7
theorem vX1_both_8 : mStepO h k cX1_both bl Q Y (8, lv, st, σ) = (mGet h k Y 11 lv st σ 73) := mStep_d dX1_both_8
theorem vX1_both_11 : mStepO h k cX1_both bl Q Y (11, lv, st, σ) = (mJ2 Y 58 14 lv st σ (fun x y => y ≤ x)) := (mStep_d dX1_both_11).trans (mIf2_J jt_11_47 jp_11_47)
theorem vX1_both_14 : mStepO h k cX1_both bl Q Y (14, lv, st, σ) = (mLdI Y 15 lv st σ 3) := mStep_d dX1_both_14
theorem vX1_both_15 : mStepO h k cX1_both bl Q Y (15, lv, st, σ) = (mLdA Y 16 lv st σ 0) := mStep_d dX1_both_15
theorem vX1_both_16 : mStepO h k cX1_both bl Q Y (16, lv, st, σ) = (mGet h k Y 19 lv st σ 38) := mStep_d dX1_both_16
theorem vX1_both_19 : mStepO h k cX1_both bl Q Y (19, lv, st, σ) = (mLdI Y 21 lv st σ 4) := mStep_d dX1_both_19
theorem vX1_both_21 : mStepO h k cX1_both bl Q Y (21, lv, st, σ) = (mLdE h Y 22 lv st σ) := mStep_d dX1_both_21
theorem vX1_both_22 : mStepO h k cX1_both bl Q Y (22, lv, st, σ) = (mLdI Y 23 lv st σ 1) := mStep_d dX1_both_22
theorem vX1_both_23 : mStepO h k cX1_both bl Q Y (23, lv, st, σ) = (mBin Y 24 lv st σ (fun x y => x >>> (y &&& 31))) := mStep_d dX1_both_23
theorem vX1_both_24 : mStepO h k cX1_both bl Q Y (24, lv, st, σ) = (Y (25, lv, .int (1) :: st, σ)) := by rw [mStep_d dX1_both_24, ← mx_c1]; rfl
theorem vX1_both_25 : mStepO h k cX1_both bl Q Y (25, lv, st, σ) = (mBin Y 26 lv st σ (fun x y => x &&& y)) := mStep_d dX1_both_25
theorem vX1_both_26 : mStepO h k cX1_both bl Q Y (26, lv, st, σ) = (Y (27, lv, .int (1) :: st, σ)) := by rw [mStep_d dX1_both_26, ← mx_c1]; rfl
theorem vX1_both_27 : mStepO h k cX1_both bl Q Y (27, lv, st, σ) = (mN2 Y 49 30 lv st σ) := (mStep_d dX1_both_27).trans (mIfN2_J jt_27_22 jp_27_22)
theorem vX1_both_30 : mStepO h k cX1_both bl Q Y (30, lv, st, σ) = (mLdA Y 31 lv st σ 0) := mStep_d dX1_both_30
theorem vX1_both_31 : mStepO h k cX1_both bl Q Y (31, lv, st, σ) = (mGet h k Y 34 lv st σ 38) := mStep_d dX1_both_31
theorem vX1_both_34 : mStepO h k cX1_both bl Q Y (34, lv, st, σ) = (mLdI Y 36 lv st σ 4) := mStep_d dX1_both_34
theorem vX1_both_36 : mStepO h k cX1_both bl Q Y (36, lv, st, σ) = (mLdE h Y 37 lv st σ) := mStep_d dX1_both_36
theorem vX1_both_37 : mStepO h k cX1_both bl Q Y (37, lv, st, σ) = (mLdI Y 38 lv st σ 2) := mStep_d dX1_both_37
theorem vX1_both_38 : mStepO h k cX1_both bl Q Y (38, lv, st, σ) = (mBin Y 39 lv st σ (fun x y => x >>> (y &&& 31))) := mStep_d dX1_both_38
theorem vX1_both_39 : mStepO h k cX1_both bl Q Y (39, lv, st, σ) = (Y (40, lv, .int (1) :: st, σ)) := by rw [mStep_d dX1_both_39, ← mx_c1]; rfl
theorem vX1_both_40 : mStepO h k cX1_both bl Q Y (40, lv, st, σ) = (mBin Y 41 lv st σ (fun x y => x &&& y)) := mStep_d dX1_both_40
theorem vX1_both_41 : mStepO h k cX1_both bl Q Y (41, lv, st, σ) = (Y (42, lv, .int (1) :: st, σ)) := by rw [mStep_d dX1_both_41, ← mx_c1]; rfl
theorem vX1_both_42 : mStepO h k cX1_both bl Q Y (42, lv, st, σ) = (mN2 Y 49 45 lv st σ) := (mStep_d dX1_both_42).trans (mIfN2_J jt_42_7 jp_42_7)
theorem vX1_both_45 : mStepO h k cX1_both bl Q Y (45, lv, st, σ) = (Y (46, lv, .int (1) :: st, σ)) := by rw [mStep_d dX1_both_45, ← mx_c1]; rfl
theorem vX1_both_46 : mStepO h k cX1_both bl Q Y (46, lv, st, σ) = (Y (50, lv, st, σ)) := (mStep_d dX1_both_46).trans (mJ_J jt_46_4 jp_46_4)
theorem vX1_both_49 : mStepO h k cX1_both bl Q Y (49, lv, st, σ) = (Y (50, lv, .int (0) :: st, σ)) := by rw [mStep_d dX1_both_49, ← mx_c0]; rfl
theorem vX1_both_50 : mStepO h k cX1_both bl Q Y (50, lv, st, σ) = (mBin Y 51 lv st σ (fun x y => x + y)) := mStep_d dX1_both_50
theorem vX1_both_51 : mStepO h k cX1_both bl Q Y (51, lv, st, σ) = (mStI Y 52 lv st σ 3) := mStep_d dX1_both_51
theorem vX1_both_52 : mStepO h k cX1_both bl Q Y (52, lv, st, σ) = (mInc Y 55 lv st σ 4 (1)) := by rw [mStep_d dX1_both_52, ← mx_c1]; rfl
theorem vX1_both_55 : mStepO h k cX1_both bl Q Y (55, lv, st, σ) = (Y (5, lv, st, σ)) := (mStep_d dX1_both_55).trans (mJ_J jt_55_m50 jp_55_m50)
theorem vX1_both_58 : mStepO h k cX1_both bl Q Y (58, lv, st, σ) = (mLdI Y 59 lv st σ 3) := mStep_d dX1_both_58
theorem vX1_both_59 : mStepO h k cX1_both bl Q Y (59, lv, st, σ) = (mRetI bl Q st σ) := mStep_d dX1_both_59
theorem vX1_people_0 : mStepO h k cX1_people bl Q Y (0, lv, st, σ) = (Y (1, lv, .int (0) :: st, σ)) := by rw [mStep_d dX1_people_0, ← mx_c0]; rfl
theorem vX1_people_1 : mStepO h k cX1_people bl Q Y (1, lv, st, σ) = (mStI Y 2 lv st σ 3) := mStep_d dX1_people_1
theorem vX1_people_2 : mStepO h k cX1_people bl Q Y (2, lv, st, σ) = (Y (3, lv, .int (0) :: st, σ)) := by rw [mStep_d dX1_people_2, ← mx_c0]; rfl
theorem vX1_people_3 : mStepO h k cX1_people bl Q Y (3, lv, st, σ) = (mStI Y 5 lv st σ 4) := mStep_d dX1_people_3
theorem vX1_people_5 : mStepO h k cX1_people bl Q Y (5, lv, st, σ) = (mLdI Y 7 lv st σ 4) := mStep_d dX1_people_5
theorem vX1_people_7 : mStepO h k cX1_people bl Q Y (7, lv, st, σ) = (Y (9, lv, .int (8) :: st, σ)) := by rw [mStep_d dX1_people_7, ← mx_b8]; rfl
theorem vX1_people_9 : mStepO h k cX1_people bl Q Y (9, lv, st, σ) = (mJ2 Y 106 12 lv st σ (fun x y => y ≤ x)) := (mStep_d dX1_people_9).trans (mIf2_J jt_9_97 jp_9_97)
theorem vX1_people_12 : mStepO h k cX1_people bl Q Y (12, lv, st, σ) = (Y (13, lv, .int (0) :: st, σ)) := by rw [mStep_d dX1_people_12, ← mx_c0]; rfl
theorem vX1_people_13 : mStepO h k cX1_people bl Q Y (13, lv, st, σ) = (mStI Y 15 lv st σ 5) := mStep_d dX1_people_13
theorem vX1_people_15 : mStepO h k cX1_people bl Q Y (15, lv, st, σ) = (Y (16, lv, .int (0) :: st, σ)) := by rw [mStep_d dX1_people_15, ← mx_c0]; rfl
theorem vX1_people_16 : mStepO h k cX1_people bl Q Y (16, lv, st, σ) = (mStI Y 18 lv st σ 6) := mStep_d dX1_people_16
theorem vX1_people_18 : mStepO h k cX1_people bl Q Y (18, lv, st, σ) = (mLdI Y 20 lv st σ 6) := mStep_d dX1_people_18
theorem vX1_people_20 : mStepO h k cX1_people bl Q Y (20, lv, st, σ) = (mLdA Y 21 lv st σ 0) := mStep_d dX1_people_20
theorem vX1_people_21 : mStepO h k cX1_people bl Q Y (21, lv, st, σ) = (mGet h k Y 24 lv st σ 73) := mStep_d dX1_people_21
theorem vX1_people_24 : mStepO h k cX1_people bl Q Y (24, lv, st, σ) = (mJ2 Y 87 27 lv st σ (fun x y => y ≤ x)) := (mStep_d dX1_people_24).trans (mIf2_J jt_24_63 jp_24_63)
theorem vX1_people_27 : mStepO h k cX1_people bl Q Y (27, lv, st, σ) = (mLdI Y 29 lv st σ 5) := mStep_d dX1_people_27
theorem vX1_people_29 : mStepO h k cX1_people bl Q Y (29, lv, st, σ) = (mN1 Y 74 32 lv st σ) := (mStep_d dX1_people_29).trans (mIfN1_J jt_29_45 jp_29_45)
theorem vX1_people_32 : mStepO h k cX1_people bl Q Y (32, lv, st, σ) = (mLdA Y 33 lv st σ 0) := mStep_d dX1_people_32
theorem vX1_people_33 : mStepO h k cX1_people bl Q Y (33, lv, st, σ) = (mGet h k Y 36 lv st σ 32) := mStep_d dX1_people_33
theorem vX1_people_36 : mStepO h k cX1_people bl Q Y (36, lv, st, σ) = (mLdI Y 38 lv st σ 6) := mStep_d dX1_people_36
theorem vX1_people_38 : mStepO h k cX1_people bl Q Y (38, lv, st, σ) = (mLdE h Y 39 lv st σ) := mStep_d dX1_people_38
theorem vX1_people_39 : mStepO h k cX1_people bl Q Y (39, lv, st, σ) = (mLdI Y 41 lv st σ 4) := mStep_d dX1_people_39
theorem vX1_people_41 : mStepO h k cX1_people bl Q Y (41, lv, st, σ) = (mN2 Y 78 44 lv st σ) := (mStep_d dX1_people_41).trans (mIfN2_J jt_41_37 jp_41_37)
theorem vX1_people_44 : mStepO h k cX1_people bl Q Y (44, lv, st, σ) = (mLdA Y 45 lv st σ 0) := mStep_d dX1_people_44
theorem vX1_people_45 : mStepO h k cX1_people bl Q Y (45, lv, st, σ) = (mGet h k Y 48 lv st σ 38) := mStep_d dX1_people_45
theorem vX1_people_48 : mStepO h k cX1_people bl Q Y (48, lv, st, σ) = (mLdI Y 50 lv st σ 6) := mStep_d dX1_people_48
theorem vX1_people_50 : mStepO h k cX1_people bl Q Y (50, lv, st, σ) = (mLdE h Y 51 lv st σ) := mStep_d dX1_people_50
theorem vX1_people_51 : mStepO h k cX1_people bl Q Y (51, lv, st, σ) = (mLdI Y 52 lv st σ 1) := mStep_d dX1_people_51
theorem vX1_people_52 : mStepO h k cX1_people bl Q Y (52, lv, st, σ) = (mBin Y 53 lv st σ (fun x y => x >>> (y &&& 31))) := mStep_d dX1_people_52
theorem vX1_people_53 : mStepO h k cX1_people bl Q Y (53, lv, st, σ) = (Y (54, lv, .int (1) :: st, σ)) := by rw [mStep_d dX1_people_53, ← mx_c1]; rfl
theorem vX1_people_54 : mStepO h k cX1_people bl Q Y (54, lv, st, σ) = (mBin Y 55 lv st σ (fun x y => x &&& y)) := mStep_d dX1_people_54
theorem vX1_people_55 : mStepO h k cX1_people bl Q Y (55, lv, st, σ) = (Y (56, lv, .int (1) :: st, σ)) := by rw [mStep_d dX1_people_55, ← mx_c1]; rfl
theorem vX1_people_56 : mStepO h k cX1_people bl Q Y (56, lv, st, σ) = (mN2 Y 78 59 lv st σ) := (mStep_d dX1_people_56).trans (mIfN2_J jt_56_22 jp_56_22)
theorem vX1_people_59 : mStepO h k cX1_people bl Q Y (59, lv, st, σ) = (mLdA Y 60 lv st σ 0) := mStep_d dX1_people_59
theorem vX1_people_60 : mStepO h k cX1_people bl Q Y (60, lv, st, σ) = (mGet h k Y 63 lv st σ 38) := mStep_d dX1_people_60
theorem vX1_people_63 : mStepO h k cX1_people bl Q Y (63, lv, st, σ) = (mLdI Y 65 lv st σ 6) := mStep_d dX1_people_63
theorem vX1_people_65 : mStepO h k cX1_people bl Q Y (65, lv, st, σ) = (mLdE h Y 66 lv st σ) := mStep_d dX1_people_65
theorem vX1_people_66 : mStepO h k cX1_people bl Q Y (66, lv, st, σ) = (mLdI Y 67 lv st σ 2) := mStep_d dX1_people_66
theorem vX1_people_67 : mStepO h k cX1_people bl Q Y (67, lv, st, σ) = (mBin Y 68 lv st σ (fun x y => x >>> (y &&& 31))) := mStep_d dX1_people_67
theorem vX1_people_68 : mStepO h k cX1_people bl Q Y (68, lv, st, σ) = (Y (69, lv, .int (1) :: st, σ)) := by rw [mStep_d dX1_people_68, ← mx_c1]; rfl
theorem vX1_people_69 : mStepO h k cX1_people bl Q Y (69, lv, st, σ) = (mBin Y 70 lv st σ (fun x y => x &&& y)) := mStep_d dX1_people_69
theorem vX1_people_70 : mStepO h k cX1_people bl Q Y (70, lv, st, σ) = (Y (71, lv, .int (1) :: st, σ)) := by rw [mStep_d dX1_people_70, ← mx_c1]; rfl
theorem vX1_people_71 : mStepO h k cX1_people bl Q Y (71, lv, st, σ) = (mN2 Y 78 74 lv st σ) := (mStep_d dX1_people_71).trans (mIfN2_J jt_71_7 jp_71_7)
theorem vX1_people_74 : mStepO h k cX1_people bl Q Y (74, lv, st, σ) = (Y (75, lv, .int (1) :: st, σ)) := by rw [mStep_d dX1_people_74, ← mx_c1]; rfl
theorem vX1_people_75 : mStepO h k cX1_people bl Q Y (75, lv, st, σ) = (Y (79, lv, st, σ)) := (mStep_d dX1_people_75).trans (mJ_J jt_75_4 jp_75_4)
theorem vX1_people_78 : mStepO h k cX1_people bl Q Y (78, lv, st, σ) = (Y (79, lv, .int (0) :: st, σ)) := by rw [mStep_d dX1_people_78, ← mx_c0]; rfl
theorem vX1_people_79 : mStepO h k cX1_people bl Q Y (79, lv, st, σ) = (mStI Y 81 lv st σ 5) := mStep_d dX1_people_79
theorem vX1_people_81 : mStepO h k cX1_people bl Q Y (81, lv, st, σ) = (mInc Y 84 lv st σ 6 (1)) := by rw [mStep_d dX1_people_81, ← mx_c1]; rfl
theorem vX1_people_84 : mStepO h k cX1_people bl Q Y (84, lv, st, σ) = (Y (18, lv, st, σ)) := (mStep_d dX1_people_84).trans (mJ_J jt_84_m66 jp_84_m66)
theorem vX1_people_87 : mStepO h k cX1_people bl Q Y (87, lv, st, σ) = (mLdI Y 88 lv st σ 3) := mStep_d dX1_people_87
theorem vX1_people_88 : mStepO h k cX1_people bl Q Y (88, lv, st, σ) = (mLdI Y 90 lv st σ 5) := mStep_d dX1_people_88
theorem vX1_people_90 : mStepO h k cX1_people bl Q Y (90, lv, st, σ) = (mJ1 Y 97 93 lv st σ (fun x => x = 0)) := (mStep_d dX1_people_90).trans (mIf1_J jt_90_7 jp_90_7)
theorem vX1_people_93 : mStepO h k cX1_people bl Q Y (93, lv, st, σ) = (Y (94, lv, .int (1) :: st, σ)) := by rw [mStep_d dX1_people_93, ← mx_c1]; rfl
theorem vX1_people_94 : mStepO h k cX1_people bl Q Y (94, lv, st, σ) = (Y (98, lv, st, σ)) := (mStep_d dX1_people_94).trans (mJ_J jt_94_4 jp_94_4)
theorem vX1_people_97 : mStepO h k cX1_people bl Q Y (97, lv, st, σ) = (Y (98, lv, .int (0) :: st, σ)) := by rw [mStep_d dX1_people_97, ← mx_c0]; rfl
theorem vX1_people_98 : mStepO h k cX1_people bl Q Y (98, lv, st, σ) = (mBin Y 99 lv st σ (fun x y => x + y)) := mStep_d dX1_people_98
theorem vX1_people_99 : mStepO h k cX1_people bl Q Y (99, lv, st, σ) = (mStI Y 100 lv st σ 3) := mStep_d dX1_people_99
theorem vX1_people_100 : mStepO h k cX1_people bl Q Y (100, lv, st, σ) = (mInc Y 103 lv st σ 4 (1)) := by rw [mStep_d dX1_people_100, ← mx_c1]; rfl
theorem vX1_people_103 : mStepO h k cX1_people bl Q Y (103, lv, st, σ) = (Y (5, lv, st, σ)) := (mStep_d dX1_people_103).trans (mJ_J jt_103_m98 jp_103_m98)
theorem vX1_people_106 : mStepO h k cX1_people bl Q Y (106, lv, st, σ) = (mLdI Y 107 lv st σ 3) := mStep_d dX1_people_106
theorem vX1_people_107 : mStepO h k cX1_people bl Q Y (107, lv, st, σ) = (mRetI bl Q st σ) := mStep_d dX1_people_107
theorem vX1_count_0 : mStepO h k cX1_count bl Q Y (0, lv, st, σ) = (mLdA Y 1 lv st σ 0) := mStep_d dX1_count_0
theorem vX1_count_1 : mStepO h k cX1_count bl Q Y (1, lv, st, σ) = (mLdI Y 2 lv st σ 1) := mStep_d dX1_count_1
theorem vX1_count_2 : mStepO h k cX1_count bl Q Y (2, lv, st, σ) = (mCaV k Y 5 lv st σ 66) := mStep_d dX1_count_2
theorem vX1_count_5 : mStepO h k cX1_count bl Q Y (5, lv, st, σ) = (mJ1 Y 16 8 lv st σ (fun x => x = 0)) := (mStep_d dX1_count_5).trans (mIf1_J jt_5_11 jp_5_11)
theorem vX1_count_8 : mStepO h k cX1_count bl Q Y (8, lv, st, σ) = (mLdA Y 9 lv st σ 0) := mStep_d dX1_count_8
theorem vX1_count_9 : mStepO h k cX1_count bl Q Y (9, lv, st, σ) = (mLdI Y 10 lv st σ 2) := mStep_d dX1_count_9
theorem vX1_count_10 : mStepO h k cX1_count bl Q Y (10, lv, st, σ) = (mCaV k Y 13 lv st σ 66) := mStep_d dX1_count_10
theorem vX1_count_13 : mStepO h k cX1_count bl Q Y (13, lv, st, σ) = (mN1 Y 20 16 lv st σ) := (mStep_d dX1_count_13).trans (mIfN1_J jt_13_7 jp_13_7)
theorem vX1_count_16 : mStepO h k cX1_count bl Q Y (16, lv, st, σ) = (Y (17, lv, .int (-1) :: st, σ)) := by rw [mStep_d dX1_count_16, ← mx_cm1]; rfl
theorem vX1_count_17 : mStepO h k cX1_count bl Q Y (17, lv, st, σ) = (Y (48, lv, st, σ)) := (mStep_d dX1_count_17).trans (mJ_J jt_17_31 jp_17_31)
theorem vX1_count_20 : mStepO h k cX1_count bl Q Y (20, lv, st, σ) = (mLdI Y 21 lv st σ 3) := mStep_d dX1_count_20
theorem vX1_count_21 : mStepO h k cX1_count bl Q Y (21, lv, st, σ) = (mN1 Y 33 24 lv st σ) := (mStep_d dX1_count_21).trans (mIfN1_J jt_21_12 jp_21_12)
theorem vX1_count_24 : mStepO h k cX1_count bl Q Y (24, lv, st, σ) = (mLdA Y 25 lv st σ 0) := mStep_d dX1_count_24
theorem vX1_count_25 : mStepO h k cX1_count bl Q Y (25, lv, st, σ) = (mLdI Y 26 lv st σ 1) := mStep_d dX1_count_25
theorem vX1_count_26 : mStepO h k cX1_count bl Q Y (26, lv, st, σ) = (mLdI Y 27 lv st σ 2) := mStep_d dX1_count_26
theorem vX1_count_27 : mStepO h k cX1_count bl Q Y (27, lv, st, σ) = (mCaV k Y 30 lv st σ 84) := mStep_d dX1_count_27
theorem vX1_count_30 : mStepO h k cX1_count bl Q Y (30, lv, st, σ) = (Y (48, lv, st, σ)) := (mStep_d dX1_count_30).trans (mJ_J jt_30_18 jp_30_18)
theorem vX1_count_33 : mStepO h k cX1_count bl Q Y (33, lv, st, σ) = (mLdI Y 34 lv st σ 3) := mStep_d dX1_count_33
theorem vX1_count_34 : mStepO h k cX1_count bl Q Y (34, lv, st, σ) = (Y (35, lv, .int (1) :: st, σ)) := by rw [mStep_d dX1_count_34, ← mx_c1]; rfl
theorem vX1_count_35 : mStepO h k cX1_count bl Q Y (35, lv, st, σ) = (mN2 Y 47 38 lv st σ) := (mStep_d dX1_count_35).trans (mIfN2_J jt_35_12 jp_35_12)
theorem vX1_count_38 : mStepO h k cX1_count bl Q Y (38, lv, st, σ) = (mLdA Y 39 lv st σ 0) := mStep_d dX1_count_38
theorem vX1_count_39 : mStepO h k cX1_count bl Q Y (39, lv, st, σ) = (mLdI Y 40 lv st σ 1) := mStep_d dX1_count_39
theorem vX1_count_40 : mStepO h k cX1_count bl Q Y (40, lv, st, σ) = (mLdI Y 41 lv st σ 2) := mStep_d dX1_count_40
theorem vX1_count_41 : mStepO h k cX1_count bl Q Y (41, lv, st, σ) = (mCaV k Y 44 lv st σ 88) := mStep_d dX1_count_41
theorem vX1_count_44 : mStepO h k cX1_count bl Q Y (44, lv, st, σ) = (Y (48, lv, st, σ)) := (mStep_d dX1_count_44).trans (mJ_J jt_44_4 jp_44_4)
theorem vX1_count_47 : mStepO h k cX1_count bl Q Y (47, lv, st, σ) = (Y (48, lv, .int (-1) :: st, σ)) := by rw [mStep_d dX1_count_47, ← mx_cm1]; rfl
theorem vX1_count_48 : mStepO h k cX1_count bl Q Y (48, lv, st, σ) = (mRetI bl Q st σ) := mStep_d dX1_count_48
theorem vX1_kinOf_0 : mStepO h k cX1_kinOf bl Q Y (0, lv, st, σ) = (mLdA Y 1 lv st σ 0) := mStep_d dX1_kinOf_0
theorem vX1_kinOf_1 : mStepO h k cX1_kinOf bl Q Y (1, lv, st, σ) = (mLdI Y 2 lv st σ 1) := mStep_d dX1_kinOf_1
theorem vX1_kinOf_2 : mStepO h k cX1_kinOf bl Q Y (2, lv, st, σ) = (mLdI Y 3 lv st σ 1) := mStep_d dX1_kinOf_2
theorem vX1_kinOf_3 : mStepO h k cX1_kinOf bl Q Y (3, lv, st, σ) = (mCaV k Y 6 lv st σ 84) := mStep_d dX1_kinOf_3
theorem vX1_kinOf_6 : mStepO h k cX1_kinOf bl Q Y (6, lv, st, σ) = (mStI Y 7 lv st σ 3) := mStep_d dX1_kinOf_6
theorem vX1_kinOf_7 : mStepO h k cX1_kinOf bl Q Y (7, lv, st, σ) = (mLdA Y 8 lv st σ 0) := mStep_d dX1_kinOf_7
theorem vX1_kinOf_8 : mStepO h k cX1_kinOf bl Q Y (8, lv, st, σ) = (mLdI Y 9 lv st σ 2) := mStep_d dX1_kinOf_8
theorem vX1_kinOf_9 : mStepO h k cX1_kinOf bl Q Y (9, lv, st, σ) = (mLdI Y 10 lv st σ 2) := mStep_d dX1_kinOf_9
theorem vX1_kinOf_10 : mStepO h k cX1_kinOf bl Q Y (10, lv, st, σ) = (mCaV k Y 13 lv st σ 84) := mStep_d dX1_kinOf_10
theorem vX1_kinOf_13 : mStepO h k cX1_kinOf bl Q Y (13, lv, st, σ) = (mStI Y 15 lv st σ 4) := mStep_d dX1_kinOf_13
theorem vX1_kinOf_15 : mStepO h k cX1_kinOf bl Q Y (15, lv, st, σ) = (mLdI Y 16 lv st σ 3) := mStep_d dX1_kinOf_15
theorem vX1_kinOf_16 : mStepO h k cX1_kinOf bl Q Y (16, lv, st, σ) = (mJ1 Y 37 19 lv st σ (fun x => x = 0)) := (mStep_d dX1_kinOf_16).trans (mIf1_J jt_16_21 jp_16_21)
theorem vX1_kinOf_19 : mStepO h k cX1_kinOf bl Q Y (19, lv, st, σ) = (mLdI Y 21 lv st σ 4) := mStep_d dX1_kinOf_19
theorem vX1_kinOf_21 : mStepO h k cX1_kinOf bl Q Y (21, lv, st, σ) = (mJ1 Y 37 24 lv st σ (fun x => x = 0)) := (mStep_d dX1_kinOf_21).trans (mIf1_J jt_21_16 jp_21_16)
theorem vX1_kinOf_24 : mStepO h k cX1_kinOf bl Q Y (24, lv, st, σ) = (mLdA Y 25 lv st σ 0) := mStep_d dX1_kinOf_24
theorem vX1_kinOf_25 : mStepO h k cX1_kinOf bl Q Y (25, lv, st, σ) = (mLdI Y 26 lv st σ 1) := mStep_d dX1_kinOf_25
theorem vX1_kinOf_26 : mStepO h k cX1_kinOf bl Q Y (26, lv, st, σ) = (mLdI Y 27 lv st σ 2) := mStep_d dX1_kinOf_26
theorem vX1_kinOf_27 : mStepO h k cX1_kinOf bl Q Y (27, lv, st, σ) = (mCaV k Y 30 lv st σ 88) := mStep_d dX1_kinOf_27
theorem vX1_kinOf_30 : mStepO h k cX1_kinOf bl Q Y (30, lv, st, σ) = (mLdA Y 31 lv st σ 0) := mStep_d dX1_kinOf_30
theorem vX1_kinOf_31 : mStepO h k cX1_kinOf bl Q Y (31, lv, st, σ) = (mGet h k Y 34 lv st σ 7) := mStep_d dX1_kinOf_31
theorem vX1_kinOf_34 : mStepO h k cX1_kinOf bl Q Y (34, lv, st, σ) = (mJ2 Y 39 37 lv st σ (fun x y => y ≤ x)) := (mStep_d dX1_kinOf_34).trans (mIf2_J jt_34_5 jp_34_5)
theorem vX1_kinOf_37 : mStepO h k cX1_kinOf bl Q Y (37, lv, st, σ) = (Y (38, lv, .int (0) :: st, σ)) := by rw [mStep_d dX1_kinOf_37, ← mx_c0]; rfl
theorem vX1_kinOf_38 : mStepO h k cX1_kinOf bl Q Y (38, lv, st, σ) = (mRetI bl Q st σ) := mStep_d dX1_kinOf_38
theorem vX1_kinOf_39 : mStepO h k cX1_kinOf bl Q Y (39, lv, st, σ) = (Y (42, lv, .int (1000) :: st, σ)) := by rw [mStep_d dX1_kinOf_39, ← mx_s1000]; rfl
theorem vX1_kinOf_42 : mStepO h k cX1_kinOf bl Q Y (42, lv, st, σ) = (mLdA Y 43 lv st σ 0) := mStep_d dX1_kinOf_42
theorem vX1_kinOf_43 : mStepO h k cX1_kinOf bl Q Y (43, lv, st, σ) = (mLdI Y 44 lv st σ 1) := mStep_d dX1_kinOf_43
theorem vX1_kinOf_44 : mStepO h k cX1_kinOf bl Q Y (44, lv, st, σ) = (mLdI Y 45 lv st σ 2) := mStep_d dX1_kinOf_44
theorem vX1_kinOf_45 : mStepO h k cX1_kinOf bl Q Y (45, lv, st, σ) = (mCaV k Y 48 lv st σ 84) := mStep_d dX1_kinOf_45
theorem vX1_kinOf_48 : mStepO h k cX1_kinOf bl Q Y (48, lv, st, σ) = (mBin Y 49 lv st σ (fun x y => x * y)) := mStep_d dX1_kinOf_48
theorem vX1_kinOf_49 : mStepO h k cX1_kinOf bl Q Y (49, lv, st, σ) = (mLdA Y 50 lv st σ 0) := mStep_d dX1_kinOf_49
theorem vX1_kinOf_50 : mStepO h k cX1_kinOf bl Q Y (50, lv, st, σ) = (mGet h k Y 53 lv st σ 73) := mStep_d dX1_kinOf_50
theorem vX1_kinOf_53 : mStepO h k cX1_kinOf bl Q Y (53, lv, st, σ) = (mBin Y 54 lv st σ (fun x y => x * y)) := mStep_d dX1_kinOf_53
theorem vX1_kinOf_54 : mStepO h k cX1_kinOf bl Q Y (54, lv, st, σ) = (mLdI Y 55 lv st σ 3) := mStep_d dX1_kinOf_54
theorem vX1_kinOf_55 : mStepO h k cX1_kinOf bl Q Y (55, lv, st, σ) = (mLdI Y 57 lv st σ 4) := mStep_d dX1_kinOf_55
theorem vX1_kinOf_57 : mStepO h k cX1_kinOf bl Q Y (57, lv, st, σ) = (mBin Y 58 lv st σ (fun x y => x * y)) := mStep_d dX1_kinOf_57
theorem vX1_kinOf_58 : mStepO h k cX1_kinOf bl Q Y (58, lv, st, σ) = (mDiv Y 59 lv st σ (fun x y => x / y)) := mStep_d dX1_kinOf_58
theorem vX1_kinOf_59 : mStepO h k cX1_kinOf bl Q Y (59, lv, st, σ) = (Y (62, lv, .int (1000) :: st, σ)) := by rw [mStep_d dX1_kinOf_59, ← mx_s1000]; rfl
theorem vX1_kinOf_62 : mStepO h k cX1_kinOf bl Q Y (62, lv, st, σ) = (mBin Y 63 lv st σ (fun x y => x - y)) := mStep_d dX1_kinOf_62
theorem vX1_kinOf_63 : mStepO h k cX1_kinOf bl Q Y (63, lv, st, σ) = (mRetI bl Q st σ) := mStep_d dX1_kinOf_63
theorem vX1_kin_0 : mStepO h k cX1_kin bl Q Y (0, lv, st, σ) = (mLdA Y 1 lv st σ 0) := mStep_d dX1_kin_0
theorem vX1_kin_1 : mStepO h k cX1_kin bl Q Y (1, lv, st, σ) = (mLdI Y 2 lv st σ 1) := mStep_d dX1_kin_1
theorem vX1_kin_2 : mStepO h k cX1_kin bl Q Y (2, lv, st, σ) = (mCaV k Y 5 lv st σ 66) := mStep_d dX1_kin_2
theorem vX1_kin_5 : mStepO h k cX1_kin bl Q Y (5, lv, st, σ) = (mJ1 Y 30 8 lv st σ (fun x => x = 0)) := (mStep_d dX1_kin_5).trans (mIf1_J jt_5_25 jp_5_25)
theorem vX1_kin_8 : mStepO h k cX1_kin bl Q Y (8, lv, st, σ) = (mLdA Y 9 lv st σ 0) := mStep_d dX1_kin_8
theorem vX1_kin_9 : mStepO h k cX1_kin bl Q Y (9, lv, st, σ) = (mLdI Y 10 lv st σ 2) := mStep_d dX1_kin_9
theorem vX1_kin_10 : mStepO h k cX1_kin bl Q Y (10, lv, st, σ) = (mCaV k Y 13 lv st σ 66) := mStep_d dX1_kin_10
theorem vX1_kin_13 : mStepO h k cX1_kin bl Q Y (13, lv, st, σ) = (mJ1 Y 30 16 lv st σ (fun x => x = 0)) := (mStep_d dX1_kin_13).trans (mIf1_J jt_13_17 jp_13_17)
theorem vX1_kin_16 : mStepO h k cX1_kin bl Q Y (16, lv, st, σ) = (mLdI Y 17 lv st σ 1) := mStep_d dX1_kin_16
theorem vX1_kin_17 : mStepO h k cX1_kin bl Q Y (17, lv, st, σ) = (mLdI Y 18 lv st σ 2) := mStep_d dX1_kin_17
theorem vX1_kin_18 : mStepO h k cX1_kin bl Q Y (18, lv, st, σ) = (mJ2 Y 30 21 lv st σ (fun x y => x = y)) := (mStep_d dX1_kin_18).trans (mIf2_J jt_18_12 jp_18_12)
theorem vX1_kin_21 : mStepO h k cX1_kin bl Q Y (21, lv, st, σ) = (mLdA Y 22 lv st σ 0) := mStep_d dX1_kin_21
theorem vX1_kin_22 : mStepO h k cX1_kin bl Q Y (22, lv, st, σ) = (mLdI Y 23 lv st σ 1) := mStep_d dX1_kin_22
theorem vX1_kin_23 : mStepO h k cX1_kin bl Q Y (23, lv, st, σ) = (mLdI Y 24 lv st σ 2) := mStep_d dX1_kin_23
theorem vX1_kin_24 : mStepO h k cX1_kin bl Q Y (24, lv, st, σ) = (mCaV k Y 27 lv st σ 91) := mStep_d dX1_kin_24
theorem vX1_kin_27 : mStepO h k cX1_kin bl Q Y (27, lv, st, σ) = (Y (32, lv, st, σ)) := (mStep_d dX1_kin_27).trans (mJ_J jt_27_5 jp_27_5)
theorem vX1_kin_30 : mStepO h k cX1_kin bl Q Y (30, lv, st, σ) = (mKon k Y 32 lv st σ 94) := mStep_d dX1_kin_30
theorem vX1_kin_32 : mStepO h k cX1_kin bl Q Y (32, lv, st, σ) = (mRetI bl Q st σ) := mStep_d dX1_kin_32
theorem vX1_near_0 : mStepO h k cX1_near bl Q Y (0, lv, st, σ) = (mLdA Y 1 lv st σ 0) := mStep_d dX1_near_0
theorem vX1_near_1 : mStepO h k cX1_near bl Q Y (1, lv, st, σ) = (mLdI Y 2 lv st σ 1) := mStep_d dX1_near_1
theorem vX1_near_2 : mStepO h k cX1_near bl Q Y (2, lv, st, σ) = (mCaV k Y 5 lv st σ 66) := mStep_d dX1_near_2
theorem vX1_near_5 : mStepO h k cX1_near bl Q Y (5, lv, st, σ) = (mJ1 Y 22 8 lv st σ (fun x => x = 0)) := (mStep_d dX1_near_5).trans (mIf1_J jt_5_17 jp_5_17)
theorem vX1_near_8 : mStepO h k cX1_near bl Q Y (8, lv, st, σ) = (mLdI Y 9 lv st σ 2) := mStep_d dX1_near_8
theorem vX1_near_9 : mStepO h k cX1_near bl Q Y (9, lv, st, σ) = (Y (10, lv, .int (0) :: st, σ)) := by rw [mStep_d dX1_near_9, ← mx_c0]; rfl
theorem vX1_near_10 : mStepO h k cX1_near bl Q Y (10, lv, st, σ) = (mLdA Y 11 lv st σ 0) := mStep_d dX1_near_10
theorem vX1_near_11 : mStepO h k cX1_near bl Q Y (11, lv, st, σ) = (mGet h k Y 14 lv st σ 53) := mStep_d dX1_near_11
theorem vX1_near_14 : mStepO h k cX1_near bl Q Y (14, lv, st, σ) = (Y (15, lv, .int (2) :: st, σ)) := by rw [mStep_d dX1_near_14, ← mx_c2]; rfl
theorem vX1_near_15 : mStepO h k cX1_near bl Q Y (15, lv, st, σ) = (mBin Y 16 lv st σ (fun x y => x - y)) := mStep_d dX1_near_15
theorem vX1_near_16 : mStepO h k cX1_near bl Q Y (16, lv, st, σ) = (mCaS k Y 19 lv st σ 56) := mStep_d dX1_near_16
theorem vX1_near_19 : mStepO h k cX1_near bl Q Y (19, lv, st, σ) = (mN1 Y 24 22 lv st σ) := (mStep_d dX1_near_19).trans (mIfN1_J jt_19_5 jp_19_5)
theorem vX1_near_22 : mStepO h k cX1_near bl Q Y (22, lv, st, σ) = (Y (23, lv, .int (-1) :: st, σ)) := by rw [mStep_d dX1_near_22, ← mx_cm1]; rfl
theorem vX1_near_23 : mStepO h k cX1_near bl Q Y (23, lv, st, σ) = (mRetI bl Q st σ) := mStep_d dX1_near_23
theorem vX1_near_24 : mStepO h k cX1_near bl Q Y (24, lv, st, σ) = (Y (25, lv, .int (1) :: st, σ)) := by rw [mStep_d dX1_near_24, ← mx_c1]; rfl
theorem vX1_near_25 : mStepO h k cX1_near bl Q Y (25, lv, st, σ) = (mLdA Y 26 lv st σ 0) := mStep_d dX1_near_25
theorem vX1_near_26 : mStepO h k cX1_near bl Q Y (26, lv, st, σ) = (mGet h k Y 29 lv st σ 53) := mStep_d dX1_near_26
theorem vX1_near_29 : mStepO h k cX1_near bl Q Y (29, lv, st, σ) = (mBin Y 30 lv st σ (fun x y => x <<< (y &&& 31))) := mStep_d dX1_near_29
theorem vX1_near_30 : mStepO h k cX1_near bl Q Y (30, lv, st, σ) = (Y (31, lv, .int (1) :: st, σ)) := by rw [mStep_d dX1_near_30, ← mx_c1]; rfl
theorem vX1_near_31 : mStepO h k cX1_near bl Q Y (31, lv, st, σ) = (mBin Y 32 lv st σ (fun x y => x - y)) := mStep_d dX1_near_31
theorem vX1_near_32 : mStepO h k cX1_near bl Q Y (32, lv, st, σ) = (Y (33, lv, .int (1) :: st, σ)) := by rw [mStep_d dX1_near_32, ← mx_c1]; rfl
theorem vX1_near_33 : mStepO h k cX1_near bl Q Y (33, lv, st, σ) = (mLdI Y 34 lv st σ 1) := mStep_d dX1_near_33
theorem vX1_near_34 : mStepO h k cX1_near bl Q Y (34, lv, st, σ) = (mBin Y 35 lv st σ (fun x y => x <<< (y &&& 31))) := mStep_d dX1_near_34
theorem vX1_near_35 : mStepO h k cX1_near bl Q Y (35, lv, st, σ) = (Y (36, lv, .int (-1) :: st, σ)) := by rw [mStep_d dX1_near_35, ← mx_cm1]; rfl
theorem vX1_near_36 : mStepO h k cX1_near bl Q Y (36, lv, st, σ) = (mBin Y 37 lv st σ (fun x y => x ^^^ y)) := mStep_d dX1_near_36
theorem vX1_near_37 : mStepO h k cX1_near bl Q Y (37, lv, st, σ) = (mBin Y 38 lv st σ (fun x y => x &&& y)) := mStep_d dX1_near_37
theorem vX1_near_38 : mStepO h k cX1_near bl Q Y (38, lv, st, σ) = (mStI Y 39 lv st σ 3) := mStep_d dX1_near_38
theorem vX1_near_39 : mStepO h k cX1_near bl Q Y (39, lv, st, σ) = (Y (40, lv, .int (-1) :: st, σ)) := by rw [mStep_d dX1_near_39, ← mx_cm1]; rfl
theorem vX1_near_40 : mStepO h k cX1_near bl Q Y (40, lv, st, σ) = (mStI Y 42 lv st σ 4) := mStep_d dX1_near_40
theorem vX1_near_42 : mStepO h k cX1_near bl Q Y (42, lv, st, σ) = (Y (43, lv, .int (0) :: st, σ)) := by rw [mStep_d dX1_near_42, ← mx_c0]; rfl
theorem vX1_near_43 : mStepO h k cX1_near bl Q Y (43, lv, st, σ) = (mStI Y 45 lv st σ 5) := mStep_d dX1_near_43
theorem vX1_near_45 : mStepO h k cX1_near bl Q Y (45, lv, st, σ) = (mLdI Y 47 lv st σ 5) := mStep_d dX1_near_45
theorem vX1_near_47 : mStepO h k cX1_near bl Q Y (47, lv, st, σ) = (mLdI Y 48 lv st σ 2) := mStep_d dX1_near_47
theorem vX1_near_48 : mStepO h k cX1_near bl Q Y (48, lv, st, σ) = (mJ2 Y 124 51 lv st σ (fun x y => y < x)) := (mStep_d dX1_near_48).trans (mIf2_J jt_48_76 jp_48_76)
theorem vX1_near_51 : mStepO h k cX1_near bl Q Y (51, lv, st, σ) = (Y (52, lv, .int (-1) :: st, σ)) := by rw [mStep_d dX1_near_51, ← mx_cm1]; rfl
theorem vX1_near_52 : mStepO h k cX1_near bl Q Y (52, lv, st, σ) = (mStI Y 54 lv st σ 4) := mStep_d dX1_near_52
theorem vX1_near_54 : mStepO h k cX1_near bl Q Y (54, lv, st, σ) = (Y (55, lv, .int (0) :: st, σ)) := by rw [mStep_d dX1_near_54, ← mx_c0]; rfl
theorem vX1_near_55 : mStepO h k cX1_near bl Q Y (55, lv, st, σ) = (mStI Y 57 lv st σ 6) := mStep_d dX1_near_55
theorem vX1_near_57 : mStepO h k cX1_near bl Q Y (57, lv, st, σ) = (mLdI Y 59 lv st σ 6) := mStep_d dX1_near_57
theorem vX1_near_59 : mStepO h k cX1_near bl Q Y (59, lv, st, σ) = (mLdA Y 60 lv st σ 0) := mStep_d dX1_near_59
theorem vX1_near_60 : mStepO h k cX1_near bl Q Y (60, lv, st, σ) = (mGet h k Y 63 lv st σ 53) := mStep_d dX1_near_60
theorem vX1_near_63 : mStepO h k cX1_near bl Q Y (63, lv, st, σ) = (mJ2 Y 109 66 lv st σ (fun x y => y ≤ x)) := (mStep_d dX1_near_63).trans (mIf2_J jt_63_46 jp_63_46)
theorem vX1_near_66 : mStepO h k cX1_near bl Q Y (66, lv, st, σ) = (mLdI Y 67 lv st σ 3) := mStep_d dX1_near_66
theorem vX1_near_67 : mStepO h k cX1_near bl Q Y (67, lv, st, σ) = (mLdI Y 69 lv st σ 6) := mStep_d dX1_near_67
theorem vX1_near_69 : mStepO h k cX1_near bl Q Y (69, lv, st, σ) = (mBin Y 70 lv st σ (fun x y => x >>> (y &&& 31))) := mStep_d dX1_near_69
theorem vX1_near_70 : mStepO h k cX1_near bl Q Y (70, lv, st, σ) = (Y (71, lv, .int (1) :: st, σ)) := by rw [mStep_d dX1_near_70, ← mx_c1]; rfl
theorem vX1_near_71 : mStepO h k cX1_near bl Q Y (71, lv, st, σ) = (mBin Y 72 lv st σ (fun x y => x &&& y)) := mStep_d dX1_near_71
theorem vX1_near_72 : mStepO h k cX1_near bl Q Y (72, lv, st, σ) = (Y (73, lv, .int (1) :: st, σ)) := by rw [mStep_d dX1_near_72, ← mx_c1]; rfl
theorem vX1_near_73 : mStepO h k cX1_near bl Q Y (73, lv, st, σ) = (mN2 Y 103 76 lv st σ) := (mStep_d dX1_near_73).trans (mIfN2_J jt_73_30 jp_73_30)
theorem vX1_near_76 : mStepO h k cX1_near bl Q Y (76, lv, st, σ) = (mLdI Y 78 lv st σ 4) := mStep_d dX1_near_76
theorem vX1_near_78 : mStepO h k cX1_near bl Q Y (78, lv, st, σ) = (Y (79, lv, .int (-1) :: st, σ)) := by rw [mStep_d dX1_near_78, ← mx_cm1]; rfl
theorem vX1_near_79 : mStepO h k cX1_near bl Q Y (79, lv, st, σ) = (mJ2 Y 99 82 lv st σ (fun x y => x = y)) := (mStep_d dX1_near_79).trans (mIf2_J jt_79_20 jp_79_20)
theorem vX1_near_82 : mStepO h k cX1_near bl Q Y (82, lv, st, σ) = (mLdA Y 83 lv st σ 0) := mStep_d dX1_near_82
theorem vX1_near_83 : mStepO h k cX1_near bl Q Y (83, lv, st, σ) = (mLdI Y 84 lv st σ 1) := mStep_d dX1_near_83
theorem vX1_near_84 : mStepO h k cX1_near bl Q Y (84, lv, st, σ) = (mLdI Y 86 lv st σ 6) := mStep_d dX1_near_84
theorem vX1_near_86 : mStepO h k cX1_near bl Q Y (86, lv, st, σ) = (mCaV k Y 89 lv st σ 91) := mStep_d dX1_near_86
theorem vX1_near_89 : mStepO h k cX1_near bl Q Y (89, lv, st, σ) = (mLdA Y 90 lv st σ 0) := mStep_d dX1_near_89
theorem vX1_near_90 : mStepO h k cX1_near bl Q Y (90, lv, st, σ) = (mLdI Y 91 lv st σ 1) := mStep_d dX1_near_90
theorem vX1_near_91 : mStepO h k cX1_near bl Q Y (91, lv, st, σ) = (mLdI Y 93 lv st σ 4) := mStep_d dX1_near_91
theorem vX1_near_93 : mStepO h k cX1_near bl Q Y (93, lv, st, σ) = (mCaV k Y 96 lv st σ 91) := mStep_d dX1_near_93
theorem vX1_near_96 : mStepO h k cX1_near bl Q Y (96, lv, st, σ) = (mJ2 Y 103 99 lv st σ (fun x y => x ≤ y)) := (mStep_d dX1_near_96).trans (mIf2_J jt_96_7 jp_96_7)
theorem vX1_near_99 : mStepO h k cX1_near bl Q Y (99, lv, st, σ) = (mLdI Y 101 lv st σ 6) := mStep_d dX1_near_99
theorem vX1_near_101 : mStepO h k cX1_near bl Q Y (101, lv, st, σ) = (mStI Y 103 lv st σ 4) := mStep_d dX1_near_101
theorem vX1_near_103 : mStepO h k cX1_near bl Q Y (103, lv, st, σ) = (mInc Y 106 lv st σ 6 (1)) := by rw [mStep_d dX1_near_103, ← mx_c1]; rfl
theorem vX1_near_106 : mStepO h k cX1_near bl Q Y (106, lv, st, σ) = (Y (57, lv, st, σ)) := (mStep_d dX1_near_106).trans (mJ_J jt_106_m49 jp_106_m49)
theorem vX1_near_109 : mStepO h k cX1_near bl Q Y (109, lv, st, σ) = (mLdI Y 110 lv st σ 3) := mStep_d dX1_near_109
theorem vX1_near_110 : mStepO h k cX1_near bl Q Y (110, lv, st, σ) = (Y (111, lv, .int (1) :: st, σ)) := by rw [mStep_d dX1_near_110, ← mx_c1]; rfl
theorem vX1_near_111 : mStepO h k cX1_near bl Q Y (111, lv, st, σ) = (mLdI Y 113 lv st σ 4) := mStep_d dX1_near_111
theorem vX1_near_113 : mStepO h k cX1_near bl Q Y (113, lv, st, σ) = (mBin Y 114 lv st σ (fun x y => x <<< (y &&& 31))) := mStep_d dX1_near_113
theorem vX1_near_114 : mStepO h k cX1_near bl Q Y (114, lv, st, σ) = (Y (115, lv, .int (-1) :: st, σ)) := by rw [mStep_d dX1_near_114, ← mx_cm1]; rfl
theorem vX1_near_115 : mStepO h k cX1_near bl Q Y (115, lv, st, σ) = (mBin Y 116 lv st σ (fun x y => x ^^^ y)) := mStep_d dX1_near_115
theorem vX1_near_116 : mStepO h k cX1_near bl Q Y (116, lv, st, σ) = (mBin Y 117 lv st σ (fun x y => x &&& y)) := mStep_d dX1_near_116
theorem vX1_near_117 : mStepO h k cX1_near bl Q Y (117, lv, st, σ) = (mStI Y 118 lv st σ 3) := mStep_d dX1_near_117
theorem vX1_near_118 : mStepO h k cX1_near bl Q Y (118, lv, st, σ) = (mInc Y 121 lv st σ 5 (1)) := by rw [mStep_d dX1_near_118, ← mx_c1]; rfl
theorem vX1_near_121 : mStepO h k cX1_near bl Q Y (121, lv, st, σ) = (Y (45, lv, st, σ)) := (mStep_d dX1_near_121).trans (mJ_J jt_121_m76 jp_121_m76)
theorem vX1_near_124 : mStepO h k cX1_near bl Q Y (124, lv, st, σ) = (mLdI Y 126 lv st σ 4) := mStep_d dX1_near_124
theorem vX1_near_126 : mStepO h k cX1_near bl Q Y (126, lv, st, σ) = (mRetI bl Q st σ) := mStep_d dX1_near_126
theorem vX1_takenBy_0 : mStepO h k cX1_takenBy bl Q Y (0, lv, st, σ) = (Y (1, lv, .int (0) :: st, σ)) := by rw [mStep_d dX1_takenBy_0, ← mx_c0]; rfl
theorem vX1_takenBy_1 : mStepO h k cX1_takenBy bl Q Y (1, lv, st, σ) = (mStI Y 2 lv st σ 2) := mStep_d dX1_takenBy_1
theorem vX1_takenBy_2 : mStepO h k cX1_takenBy bl Q Y (2, lv, st, σ) = (Y (3, lv, .int (0) :: st, σ)) := by rw [mStep_d dX1_takenBy_2, ← mx_c0]; rfl
theorem vX1_takenBy_3 : mStepO h k cX1_takenBy bl Q Y (3, lv, st, σ) = (mStI Y 4 lv st σ 3) := mStep_d dX1_takenBy_3
theorem vX1_takenBy_4 : mStepO h k cX1_takenBy bl Q Y (4, lv, st, σ) = (mLdI Y 5 lv st σ 3) := mStep_d dX1_takenBy_4
theorem vX1_takenBy_5 : mStepO h k cX1_takenBy bl Q Y (5, lv, st, σ) = (mLdA Y 6 lv st σ 0) := mStep_d dX1_takenBy_5
theorem vX1_takenBy_6 : mStepO h k cX1_takenBy bl Q Y (6, lv, st, σ) = (mGet h k Y 9 lv st σ 73) := mStep_d dX1_takenBy_6
theorem vX1_takenBy_9 : mStepO h k cX1_takenBy bl Q Y (9, lv, st, σ) = (mJ2 Y 41 12 lv st σ (fun x y => y ≤ x)) := (mStep_d dX1_takenBy_9).trans (mIf2_J jt_9_32 jp_9_32)
theorem vX1_takenBy_12 : mStepO h k cX1_takenBy bl Q Y (12, lv, st, σ) = (mLdI Y 13 lv st σ 2) := mStep_d dX1_takenBy_12
theorem vX1_takenBy_13 : mStepO h k cX1_takenBy bl Q Y (13, lv, st, σ) = (mLdA Y 14 lv st σ 0) := mStep_d dX1_takenBy_13
theorem vX1_takenBy_14 : mStepO h k cX1_takenBy bl Q Y (14, lv, st, σ) = (mGet h k Y 17 lv st σ 32) := mStep_d dX1_takenBy_14
theorem vX1_takenBy_17 : mStepO h k cX1_takenBy bl Q Y (17, lv, st, σ) = (mLdI Y 18 lv st σ 3) := mStep_d dX1_takenBy_17
theorem vX1_takenBy_18 : mStepO h k cX1_takenBy bl Q Y (18, lv, st, σ) = (mLdE h Y 19 lv st σ) := mStep_d dX1_takenBy_18
theorem vX1_takenBy_19 : mStepO h k cX1_takenBy bl Q Y (19, lv, st, σ) = (mLdI Y 20 lv st σ 1) := mStep_d dX1_takenBy_19
theorem vX1_takenBy_20 : mStepO h k cX1_takenBy bl Q Y (20, lv, st, σ) = (mN2 Y 32 23 lv st σ) := (mStep_d dX1_takenBy_20).trans (mIfN2_J jt_20_12 jp_20_12)
theorem vX1_takenBy_23 : mStepO h k cX1_takenBy bl Q Y (23, lv, st, σ) = (mLdA Y 24 lv st σ 0) := mStep_d dX1_takenBy_23
theorem vX1_takenBy_24 : mStepO h k cX1_takenBy bl Q Y (24, lv, st, σ) = (mGet h k Y 27 lv st σ 38) := mStep_d dX1_takenBy_24
theorem vX1_takenBy_27 : mStepO h k cX1_takenBy bl Q Y (27, lv, st, σ) = (mLdI Y 28 lv st σ 3) := mStep_d dX1_takenBy_27
theorem vX1_takenBy_28 : mStepO h k cX1_takenBy bl Q Y (28, lv, st, σ) = (mLdE h Y 29 lv st σ) := mStep_d dX1_takenBy_28
theorem vX1_takenBy_29 : mStepO h k cX1_takenBy bl Q Y (29, lv, st, σ) = (Y (33, lv, st, σ)) := (mStep_d dX1_takenBy_29).trans (mJ_J jt_29_4 jp_29_4)
theorem vX1_takenBy_32 : mStepO h k cX1_takenBy bl Q Y (32, lv, st, σ) = (Y (33, lv, .int (0) :: st, σ)) := by rw [mStep_d dX1_takenBy_32, ← mx_c0]; rfl
theorem vX1_takenBy_33 : mStepO h k cX1_takenBy bl Q Y (33, lv, st, σ) = (mBin Y 34 lv st σ (fun x y => x ||| y)) := mStep_d dX1_takenBy_33
theorem vX1_takenBy_34 : mStepO h k cX1_takenBy bl Q Y (34, lv, st, σ) = (mStI Y 35 lv st σ 2) := mStep_d dX1_takenBy_34
theorem vX1_takenBy_35 : mStepO h k cX1_takenBy bl Q Y (35, lv, st, σ) = (mInc Y 38 lv st σ 3 (1)) := by rw [mStep_d dX1_takenBy_35, ← mx_c1]; rfl
theorem vX1_takenBy_38 : mStepO h k cX1_takenBy bl Q Y (38, lv, st, σ) = (Y (4, lv, st, σ)) := (mStep_d dX1_takenBy_38).trans (mJ_J jt_38_m34 jp_38_m34)
theorem vX1_takenBy_41 : mStepO h k cX1_takenBy bl Q Y (41, lv, st, σ) = (mLdI Y 42 lv st σ 2) := mStep_d dX1_takenBy_41
theorem vX1_takenBy_42 : mStepO h k cX1_takenBy bl Q Y (42, lv, st, σ) = (mRetI bl Q st σ) := mStep_d dX1_takenBy_42
theorem vX1_taken_0 : mStepO h k cX1_taken bl Q Y (0, lv, st, σ) = (mLdI Y 1 lv st σ 1) := mStep_d dX1_taken_0
theorem vX1_taken_1 : mStepO h k cX1_taken bl Q Y (1, lv, st, σ) = (mCaS k Y 4 lv st σ 70) := mStep_d dX1_taken_1
theorem vX1_taken_4 : mStepO h k cX1_taken bl Q Y (4, lv, st, σ) = (mJ1 Y 15 7 lv st σ (fun x => x = 0)) := (mStep_d dX1_taken_4).trans (mIf1_J jt_4_11 jp_4_11)
theorem vX1_taken_7 : mStepO h k cX1_taken bl Q Y (7, lv, st, σ) = (mLdA Y 8 lv st σ 0) := mStep_d dX1_taken_7
theorem vX1_taken_8 : mStepO h k cX1_taken bl Q Y (8, lv, st, σ) = (mLdI Y 9 lv st σ 1) := mStep_d dX1_taken_8
theorem vX1_taken_9 : mStepO h k cX1_taken bl Q Y (9, lv, st, σ) = (mCaV k Y 12 lv st σ 95) := mStep_d dX1_taken_9
theorem vX1_taken_12 : mStepO h k cX1_taken bl Q Y (12, lv, st, σ) = (Y (16, lv, st, σ)) := (mStep_d dX1_taken_12).trans (mJ_J jt_12_4 jp_12_4)
theorem vX1_taken_15 : mStepO h k cX1_taken bl Q Y (15, lv, st, σ) = (Y (16, lv, .int (-1) :: st, σ)) := by rw [mStep_d dX1_taken_15, ← mx_cm1]; rfl
theorem vX1_taken_16 : mStepO h k cX1_taken bl Q Y (16, lv, st, σ) = (mRetI bl Q st σ) := mStep_d dX1_taken_16
theorem vX1_scoreOf_0 : mStepO h k cX1_scoreOf bl Q Y (0, lv, st, σ) = (mLdA Y 1 lv st σ 0) := mStep_d dX1_scoreOf_0
theorem vX1_scoreOf_1 : mStepO h k cX1_scoreOf bl Q Y (1, lv, st, σ) = (mLdI Y 2 lv st σ 1) := mStep_d dX1_scoreOf_1
theorem vX1_scoreOf_2 : mStepO h k cX1_scoreOf bl Q Y (2, lv, st, σ) = (mCaV k Y 5 lv st σ 95) := mStep_d dX1_scoreOf_2
theorem vX1_scoreOf_5 : mStepO h k cX1_scoreOf bl Q Y (5, lv, st, σ) = (mStI Y 6 lv st σ 3) := mStep_d dX1_scoreOf_5
theorem vX1_scoreOf_6 : mStepO h k cX1_scoreOf bl Q Y (6, lv, st, σ) = (Y (7, lv, .int (0) :: st, σ)) := by rw [mStep_d dX1_scoreOf_6, ← mx_c0]; rfl
theorem vX1_scoreOf_7 : mStepO h k cX1_scoreOf bl Q Y (7, lv, st, σ) = (mStI Y 9 lv st σ 4) := mStep_d dX1_scoreOf_7
theorem vX1_scoreOf_9 : mStepO h k cX1_scoreOf bl Q Y (9, lv, st, σ) = (Y (10, lv, .int (0) :: st, σ)) := by rw [mStep_d dX1_scoreOf_9, ← mx_c0]; rfl
theorem vX1_scoreOf_10 : mStepO h k cX1_scoreOf bl Q Y (10, lv, st, σ) = (mStI Y 12 lv st σ 5) := mStep_d dX1_scoreOf_10
theorem vX1_scoreOf_12 : mStepO h k cX1_scoreOf bl Q Y (12, lv, st, σ) = (mLdI Y 14 lv st σ 5) := mStep_d dX1_scoreOf_12
theorem vX1_scoreOf_14 : mStepO h k cX1_scoreOf bl Q Y (14, lv, st, σ) = (mLdA Y 15 lv st σ 0) := mStep_d dX1_scoreOf_14
theorem vX1_scoreOf_15 : mStepO h k cX1_scoreOf bl Q Y (15, lv, st, σ) = (mGet h k Y 18 lv st σ 53) := mStep_d dX1_scoreOf_15
theorem vX1_scoreOf_18 : mStepO h k cX1_scoreOf bl Q Y (18, lv, st, σ) = (mJ2 Y 59 21 lv st σ (fun x y => y ≤ x)) := (mStep_d dX1_scoreOf_18).trans (mIf2_J jt_18_41 jp_18_41)
theorem vX1_scoreOf_21 : mStepO h k cX1_scoreOf bl Q Y (21, lv, st, σ) = (mLdI Y 23 lv st σ 4) := mStep_d dX1_scoreOf_21
theorem vX1_scoreOf_23 : mStepO h k cX1_scoreOf bl Q Y (23, lv, st, σ) = (mLdI Y 25 lv st σ 5) := mStep_d dX1_scoreOf_23
theorem vX1_scoreOf_25 : mStepO h k cX1_scoreOf bl Q Y (25, lv, st, σ) = (mLdI Y 26 lv st σ 2) := mStep_d dX1_scoreOf_25
theorem vX1_scoreOf_26 : mStepO h k cX1_scoreOf bl Q Y (26, lv, st, σ) = (mJ2 Y 49 29 lv st σ (fun x y => x = y)) := (mStep_d dX1_scoreOf_26).trans (mIf2_J jt_26_23 jp_26_23)
theorem vX1_scoreOf_29 : mStepO h k cX1_scoreOf bl Q Y (29, lv, st, σ) = (mLdI Y 30 lv st σ 3) := mStep_d dX1_scoreOf_29
theorem vX1_scoreOf_30 : mStepO h k cX1_scoreOf bl Q Y (30, lv, st, σ) = (mLdI Y 32 lv st σ 5) := mStep_d dX1_scoreOf_30
theorem vX1_scoreOf_32 : mStepO h k cX1_scoreOf bl Q Y (32, lv, st, σ) = (mBin Y 33 lv st σ (fun x y => x >>> (y &&& 31))) := mStep_d dX1_scoreOf_32
theorem vX1_scoreOf_33 : mStepO h k cX1_scoreOf bl Q Y (33, lv, st, σ) = (Y (34, lv, .int (1) :: st, σ)) := by rw [mStep_d dX1_scoreOf_33, ← mx_c1]; rfl
theorem vX1_scoreOf_34 : mStepO h k cX1_scoreOf bl Q Y (34, lv, st, σ) = (mBin Y 35 lv st σ (fun x y => x &&& y)) := mStep_d dX1_scoreOf_34
theorem vX1_scoreOf_35 : mStepO h k cX1_scoreOf bl Q Y (35, lv, st, σ) = (Y (36, lv, .int (1) :: st, σ)) := by rw [mStep_d dX1_scoreOf_35, ← mx_c1]; rfl
theorem vX1_scoreOf_36 : mStepO h k cX1_scoreOf bl Q Y (36, lv, st, σ) = (mN2 Y 49 39 lv st σ) := (mStep_d dX1_scoreOf_36).trans (mIfN2_J jt_36_13 jp_36_13)
theorem vX1_scoreOf_39 : mStepO h k cX1_scoreOf bl Q Y (39, lv, st, σ) = (mLdA Y 40 lv st σ 0) := mStep_d dX1_scoreOf_39
theorem vX1_scoreOf_40 : mStepO h k cX1_scoreOf bl Q Y (40, lv, st, σ) = (mLdI Y 41 lv st σ 2) := mStep_d dX1_scoreOf_40
theorem vX1_scoreOf_41 : mStepO h k cX1_scoreOf bl Q Y (41, lv, st, σ) = (mLdI Y 43 lv st σ 5) := mStep_d dX1_scoreOf_41
theorem vX1_scoreOf_43 : mStepO h k cX1_scoreOf bl Q Y (43, lv, st, σ) = (mCaV k Y 46 lv st σ 91) := mStep_d dX1_scoreOf_43
theorem vX1_scoreOf_46 : mStepO h k cX1_scoreOf bl Q Y (46, lv, st, σ) = (Y (50, lv, st, σ)) := (mStep_d dX1_scoreOf_46).trans (mJ_J jt_46_4 jp_46_4)
theorem vX1_scoreOf_49 : mStepO h k cX1_scoreOf bl Q Y (49, lv, st, σ) = (Y (50, lv, .int (0) :: st, σ)) := by rw [mStep_d dX1_scoreOf_49, ← mx_c0]; rfl
theorem vX1_scoreOf_50 : mStepO h k cX1_scoreOf bl Q Y (50, lv, st, σ) = (mBin Y 51 lv st σ (fun x y => x + y)) := mStep_d dX1_scoreOf_50
theorem vX1_scoreOf_51 : mStepO h k cX1_scoreOf bl Q Y (51, lv, st, σ) = (mStI Y 53 lv st σ 4) := mStep_d dX1_scoreOf_51
theorem vX1_scoreOf_53 : mStepO h k cX1_scoreOf bl Q Y (53, lv, st, σ) = (mInc Y 56 lv st σ 5 (1)) := by rw [mStep_d dX1_scoreOf_53, ← mx_c1]; rfl
theorem vX1_scoreOf_56 : mStepO h k cX1_scoreOf bl Q Y (56, lv, st, σ) = (Y (12, lv, st, σ)) := (mStep_d dX1_scoreOf_56).trans (mJ_J jt_56_m44 jp_56_m44)
theorem vX1_scoreOf_59 : mStepO h k cX1_scoreOf bl Q Y (59, lv, st, σ) = (mLdI Y 61 lv st σ 4) := mStep_d dX1_scoreOf_59
theorem vX1_scoreOf_61 : mStepO h k cX1_scoreOf bl Q Y (61, lv, st, σ) = (mRetI bl Q st σ) := mStep_d dX1_scoreOf_61
theorem vX1_score_0 : mStepO h k cX1_score bl Q Y (0, lv, st, σ) = (mLdI Y 1 lv st σ 1) := mStep_d dX1_score_0
theorem vX1_score_1 : mStepO h k cX1_score bl Q Y (1, lv, st, σ) = (mCaS k Y 4 lv st σ 70) := mStep_d dX1_score_1
theorem vX1_score_4 : mStepO h k cX1_score bl Q Y (4, lv, st, σ) = (mJ1 Y 24 7 lv st σ (fun x => x = 0)) := (mStep_d dX1_score_4).trans (mIf1_J jt_4_20 jp_4_20)
theorem vX1_score_7 : mStepO h k cX1_score bl Q Y (7, lv, st, σ) = (mLdA Y 8 lv st σ 0) := mStep_d dX1_score_7
theorem vX1_score_8 : mStepO h k cX1_score bl Q Y (8, lv, st, σ) = (mLdI Y 9 lv st σ 2) := mStep_d dX1_score_8
theorem vX1_score_9 : mStepO h k cX1_score bl Q Y (9, lv, st, σ) = (mCaV k Y 12 lv st σ 66) := mStep_d dX1_score_9
theorem vX1_score_12 : mStepO h k cX1_score bl Q Y (12, lv, st, σ) = (mJ1 Y 24 15 lv st σ (fun x => x = 0)) := (mStep_d dX1_score_12).trans (mIf1_J jt_12_12 jp_12_12)
theorem vX1_score_15 : mStepO h k cX1_score bl Q Y (15, lv, st, σ) = (mLdA Y 16 lv st σ 0) := mStep_d dX1_score_15
theorem vX1_score_16 : mStepO h k cX1_score bl Q Y (16, lv, st, σ) = (mLdI Y 17 lv st σ 1) := mStep_d dX1_score_16
theorem vX1_score_17 : mStepO h k cX1_score bl Q Y (17, lv, st, σ) = (mLdI Y 18 lv st σ 2) := mStep_d dX1_score_17
theorem vX1_score_18 : mStepO h k cX1_score bl Q Y (18, lv, st, σ) = (mCaV k Y 21 lv st σ 99) := mStep_d dX1_score_18
theorem vX1_score_21 : mStepO h k cX1_score bl Q Y (21, lv, st, σ) = (Y (26, lv, st, σ)) := (mStep_d dX1_score_21).trans (mJ_J jt_21_5 jp_21_5)
theorem vX1_score_24 : mStepO h k cX1_score bl Q Y (24, lv, st, σ) = (mKon k Y 26 lv st σ 94) := mStep_d dX1_score_24
theorem vX1_score_26 : mStepO h k cX1_score bl Q Y (26, lv, st, σ) = (mRetI bl Q st σ) := mStep_d dX1_score_26
theorem vX1_mayFor_0 : mStepO h k cX1_mayFor bl Q Y (0, lv, st, σ) = (mLdA Y 1 lv st σ 0) := mStep_d dX1_mayFor_0
theorem vX1_mayFor_1 : mStepO h k cX1_mayFor bl Q Y (1, lv, st, σ) = (mGet h k Y 4 lv st σ 63) := mStep_d dX1_mayFor_1
theorem vX1_mayFor_4 : mStepO h k cX1_mayFor bl Q Y (4, lv, st, σ) = (mLdA Y 5 lv st σ 0) := mStep_d dX1_mayFor_4
theorem vX1_mayFor_5 : mStepO h k cX1_mayFor bl Q Y (5, lv, st, σ) = (mLdI Y 6 lv st σ 1) := mStep_d dX1_mayFor_5
theorem vX1_mayFor_6 : mStepO h k cX1_mayFor bl Q Y (6, lv, st, σ) = (mCaV k Y 9 lv st σ 95) := mStep_d dX1_mayFor_6
theorem vX1_mayFor_9 : mStepO h k cX1_mayFor bl Q Y (9, lv, st, σ) = (Y (10, lv, .int (-1) :: st, σ)) := by rw [mStep_d dX1_mayFor_9, ← mx_cm1]; rfl
theorem vX1_mayFor_10 : mStepO h k cX1_mayFor bl Q Y (10, lv, st, σ) = (mBin Y 11 lv st σ (fun x y => x ^^^ y)) := mStep_d dX1_mayFor_10
theorem vX1_mayFor_11 : mStepO h k cX1_mayFor bl Q Y (11, lv, st, σ) = (mBin Y 12 lv st σ (fun x y => x &&& y)) := mStep_d dX1_mayFor_11
theorem vX1_mayFor_12 : mStepO h k cX1_mayFor bl Q Y (12, lv, st, σ) = (mStI Y 13 lv st σ 2) := mStep_d dX1_mayFor_12
theorem vX1_mayFor_13 : mStepO h k cX1_mayFor bl Q Y (13, lv, st, σ) = (Y (14, lv, .int (0) :: st, σ)) := by rw [mStep_d dX1_mayFor_13, ← mx_c0]; rfl
theorem vX1_mayFor_14 : mStepO h k cX1_mayFor bl Q Y (14, lv, st, σ) = (mStI Y 15 lv st σ 3) := mStep_d dX1_mayFor_14
theorem vX1_mayFor_15 : mStepO h k cX1_mayFor bl Q Y (15, lv, st, σ) = (mLdI Y 16 lv st σ 3) := mStep_d dX1_mayFor_15
theorem vX1_mayFor_16 : mStepO h k cX1_mayFor bl Q Y (16, lv, st, σ) = (mLdA Y 17 lv st σ 0) := mStep_d dX1_mayFor_16
theorem vX1_mayFor_17 : mStepO h k cX1_mayFor bl Q Y (17, lv, st, σ) = (mGet h k Y 20 lv st σ 53) := mStep_d dX1_mayFor_17
theorem vX1_mayFor_20 : mStepO h k cX1_mayFor bl Q Y (20, lv, st, σ) = (mJ2 Y 55 23 lv st σ (fun x y => y ≤ x)) := (mStep_d dX1_mayFor_20).trans (mIf2_J jt_20_35 jp_20_35)
theorem vX1_mayFor_23 : mStepO h k cX1_mayFor bl Q Y (23, lv, st, σ) = (mLdA Y 24 lv st σ 0) := mStep_d dX1_mayFor_23
theorem vX1_mayFor_24 : mStepO h k cX1_mayFor bl Q Y (24, lv, st, σ) = (mGet h k Y 27 lv st σ 60) := mStep_d dX1_mayFor_24
theorem vX1_mayFor_27 : mStepO h k cX1_mayFor bl Q Y (27, lv, st, σ) = (mLdA Y 28 lv st σ 0) := mStep_d dX1_mayFor_27
theorem vX1_mayFor_28 : mStepO h k cX1_mayFor bl Q Y (28, lv, st, σ) = (mGet h k Y 31 lv st σ 47) := mStep_d dX1_mayFor_28
theorem vX1_mayFor_31 : mStepO h k cX1_mayFor bl Q Y (31, lv, st, σ) = (Y (33, lv, .int (12) :: st, σ)) := by rw [mStep_d dX1_mayFor_31, ← mx_b12]; rfl
theorem vX1_mayFor_33 : mStepO h k cX1_mayFor bl Q Y (33, lv, st, σ) = (mLdI Y 34 lv st σ 1) := mStep_d dX1_mayFor_33
theorem vX1_mayFor_34 : mStepO h k cX1_mayFor bl Q Y (34, lv, st, σ) = (mBin Y 35 lv st σ (fun x y => x * y)) := mStep_d dX1_mayFor_34
theorem vX1_mayFor_35 : mStepO h k cX1_mayFor bl Q Y (35, lv, st, σ) = (mLdI Y 36 lv st σ 3) := mStep_d dX1_mayFor_35
theorem vX1_mayFor_36 : mStepO h k cX1_mayFor bl Q Y (36, lv, st, σ) = (mBin Y 37 lv st σ (fun x y => x + y)) := mStep_d dX1_mayFor_36
theorem vX1_mayFor_37 : mStepO h k cX1_mayFor bl Q Y (37, lv, st, σ) = (mLdE h Y 38 lv st σ) := mStep_d dX1_mayFor_37
theorem vX1_mayFor_38 : mStepO h k cX1_mayFor bl Q Y (38, lv, st, σ) = (mJ2 Y 49 41 lv st σ (fun x y => y ≤ x)) := (mStep_d dX1_mayFor_38).trans (mIf2_J jt_38_11 jp_38_11)
theorem vX1_mayFor_41 : mStepO h k cX1_mayFor bl Q Y (41, lv, st, σ) = (mLdI Y 42 lv st σ 2) := mStep_d dX1_mayFor_41
theorem vX1_mayFor_42 : mStepO h k cX1_mayFor bl Q Y (42, lv, st, σ) = (Y (43, lv, .int (1) :: st, σ)) := by rw [mStep_d dX1_mayFor_42, ← mx_c1]; rfl
theorem vX1_mayFor_43 : mStepO h k cX1_mayFor bl Q Y (43, lv, st, σ) = (mLdI Y 44 lv st σ 3) := mStep_d dX1_mayFor_43
theorem vX1_mayFor_44 : mStepO h k cX1_mayFor bl Q Y (44, lv, st, σ) = (mBin Y 45 lv st σ (fun x y => x <<< (y &&& 31))) := mStep_d dX1_mayFor_44
theorem vX1_mayFor_45 : mStepO h k cX1_mayFor bl Q Y (45, lv, st, σ) = (Y (46, lv, .int (-1) :: st, σ)) := by rw [mStep_d dX1_mayFor_45, ← mx_cm1]; rfl
theorem vX1_mayFor_46 : mStepO h k cX1_mayFor bl Q Y (46, lv, st, σ) = (mBin Y 47 lv st σ (fun x y => x ^^^ y)) := mStep_d dX1_mayFor_46
theorem vX1_mayFor_47 : mStepO h k cX1_mayFor bl Q Y (47, lv, st, σ) = (mBin Y 48 lv st σ (fun x y => x &&& y)) := mStep_d dX1_mayFor_47
theorem vX1_mayFor_48 : mStepO h k cX1_mayFor bl Q Y (48, lv, st, σ) = (mStI Y 49 lv st σ 2) := mStep_d dX1_mayFor_48
theorem vX1_mayFor_49 : mStepO h k cX1_mayFor bl Q Y (49, lv, st, σ) = (mInc Y 52 lv st σ 3 (1)) := by rw [mStep_d dX1_mayFor_49, ← mx_c1]; rfl
theorem vX1_mayFor_52 : mStepO h k cX1_mayFor bl Q Y (52, lv, st, σ) = (Y (15, lv, st, σ)) := (mStep_d dX1_mayFor_52).trans (mJ_J jt_52_m37 jp_52_m37)
theorem vX1_mayFor_55 : mStepO h k cX1_mayFor bl Q Y (55, lv, st, σ) = (mLdI Y 56 lv st σ 2) := mStep_d dX1_mayFor_55
theorem vX1_mayFor_56 : mStepO h k cX1_mayFor bl Q Y (56, lv, st, σ) = (mRetI bl Q st σ) := mStep_d dX1_mayFor_56
theorem vX1_may_0 : mStepO h k cX1_may bl Q Y (0, lv, st, σ) = (mLdI Y 1 lv st σ 1) := mStep_d dX1_may_0
theorem vX1_may_1 : mStepO h k cX1_may bl Q Y (1, lv, st, σ) = (mCaS k Y 4 lv st σ 70) := mStep_d dX1_may_1
theorem vX1_may_4 : mStepO h k cX1_may bl Q Y (4, lv, st, σ) = (mJ1 Y 15 7 lv st σ (fun x => x = 0)) := (mStep_d dX1_may_4).trans (mIf1_J jt_4_11 jp_4_11)
theorem vX1_may_7 : mStepO h k cX1_may bl Q Y (7, lv, st, σ) = (mLdA Y 8 lv st σ 0) := mStep_d dX1_may_7
theorem vX1_may_8 : mStepO h k cX1_may bl Q Y (8, lv, st, σ) = (mLdI Y 9 lv st σ 1) := mStep_d dX1_may_8
theorem vX1_may_9 : mStepO h k cX1_may bl Q Y (9, lv, st, σ) = (mCaV k Y 12 lv st σ 102) := mStep_d dX1_may_9
theorem vX1_may_12 : mStepO h k cX1_may bl Q Y (12, lv, st, σ) = (Y (16, lv, st, σ)) := (mStep_d dX1_may_12).trans (mJ_J jt_12_4 jp_12_4)
theorem vX1_may_15 : mStepO h k cX1_may bl Q Y (15, lv, st, σ) = (Y (16, lv, .int (-1) :: st, σ)) := by rw [mStep_d dX1_may_15, ← mx_cm1]; rfl
theorem vX1_may_16 : mStepO h k cX1_may bl Q Y (16, lv, st, σ) = (mRetI bl Q st σ) := mStep_d dX1_may_16
theorem vX1_bits_0 : mStepO h k cX1_bits bl Q Y (0, lv, st, σ) = (Y (1, lv, .int (0) :: st, σ)) := by rw [mStep_d dX1_bits_0, ← mx_c0]; rfl
theorem vX1_bits_1 : mStepO h k cX1_bits bl Q Y (1, lv, st, σ) = (mStI Y 2 lv st σ 1) := mStep_d dX1_bits_1
theorem vX1_bits_2 : mStepO h k cX1_bits bl Q Y (2, lv, st, σ) = (Y (3, lv, .int (0) :: st, σ)) := by rw [mStep_d dX1_bits_2, ← mx_c0]; rfl
theorem vX1_bits_3 : mStepO h k cX1_bits bl Q Y (3, lv, st, σ) = (mStI Y 4 lv st σ 2) := mStep_d dX1_bits_3
theorem vX1_bits_4 : mStepO h k cX1_bits bl Q Y (4, lv, st, σ) = (mLdI Y 5 lv st σ 2) := mStep_d dX1_bits_4
theorem vX1_bits_5 : mStepO h k cX1_bits bl Q Y (5, lv, st, σ) = (Y (7, lv, .int (12) :: st, σ)) := by rw [mStep_d dX1_bits_5, ← mx_b12]; rfl
theorem vX1_bits_7 : mStepO h k cX1_bits bl Q Y (7, lv, st, σ) = (mJ2 Y 24 10 lv st σ (fun x y => y ≤ x)) := (mStep_d dX1_bits_7).trans (mIf2_J jt_7_17 jp_7_17)
theorem vX1_bits_10 : mStepO h k cX1_bits bl Q Y (10, lv, st, σ) = (mLdI Y 11 lv st σ 1) := mStep_d dX1_bits_10
theorem vX1_bits_11 : mStepO h k cX1_bits bl Q Y (11, lv, st, σ) = (mLdI Y 12 lv st σ 0) := mStep_d dX1_bits_11
theorem vX1_bits_12 : mStepO h k cX1_bits bl Q Y (12, lv, st, σ) = (mLdI Y 13 lv st σ 2) := mStep_d dX1_bits_12
theorem vX1_bits_13 : mStepO h k cX1_bits bl Q Y (13, lv, st, σ) = (mBin Y 14 lv st σ (fun x y => x >>> (y &&& 31))) := mStep_d dX1_bits_13
theorem vX1_bits_14 : mStepO h k cX1_bits bl Q Y (14, lv, st, σ) = (Y (15, lv, .int (1) :: st, σ)) := by rw [mStep_d dX1_bits_14, ← mx_c1]; rfl
theorem vX1_bits_15 : mStepO h k cX1_bits bl Q Y (15, lv, st, σ) = (mBin Y 16 lv st σ (fun x y => x &&& y)) := mStep_d dX1_bits_15
theorem vX1_bits_16 : mStepO h k cX1_bits bl Q Y (16, lv, st, σ) = (mBin Y 17 lv st σ (fun x y => x + y)) := mStep_d dX1_bits_16
theorem vX1_bits_17 : mStepO h k cX1_bits bl Q Y (17, lv, st, σ) = (mStI Y 18 lv st σ 1) := mStep_d dX1_bits_17
theorem vX1_bits_18 : mStepO h k cX1_bits bl Q Y (18, lv, st, σ) = (mInc Y 21 lv st σ 2 (1)) := by rw [mStep_d dX1_bits_18, ← mx_c1]; rfl
theorem vX1_bits_21 : mStepO h k cX1_bits bl Q Y (21, lv, st, σ) = (Y (4, lv, st, σ)) := (mStep_d dX1_bits_21).trans (mJ_J jt_21_m17 jp_21_m17)
theorem vX1_bits_24 : mStepO h k cX1_bits bl Q Y (24, lv, st, σ) = (mLdI Y 25 lv st σ 1) := mStep_d dX1_bits_24
theorem vX1_bits_25 : mStepO h k cX1_bits bl Q Y (25, lv, st, σ) = (mRetI bl Q st σ) := mStep_d dX1_bits_25
theorem vX1_keeps_0 : mStepO h k cX1_keeps bl Q Y (0, lv, st, σ) = (Y (1, lv, .int (0) :: st, σ)) := by rw [mStep_d dX1_keeps_0, ← mx_c0]; rfl
theorem vX1_keeps_1 : mStepO h k cX1_keeps bl Q Y (1, lv, st, σ) = (mStI Y 2 lv st σ 2) := mStep_d dX1_keeps_1
theorem vX1_keeps_2 : mStepO h k cX1_keeps bl Q Y (2, lv, st, σ) = (mLdI Y 3 lv st σ 2) := mStep_d dX1_keeps_2
theorem vX1_keeps_3 : mStepO h k cX1_keeps bl Q Y (3, lv, st, σ) = (Y (4, lv, .int (4) :: st, σ)) := by rw [mStep_d dX1_keeps_3, ← mx_c4]; rfl
theorem vX1_keeps_4 : mStepO h k cX1_keeps bl Q Y (4, lv, st, σ) = (mJ2 Y 72 7 lv st σ (fun x y => y ≤ x)) := (mStep_d dX1_keeps_4).trans (mIf2_J jt_4_68 jp_4_68)
theorem vX1_keeps_7 : mStepO h k cX1_keeps bl Q Y (7, lv, st, σ) = (Y (8, lv, .int (0) :: st, σ)) := by rw [mStep_d dX1_keeps_7, ← mx_c0]; rfl
theorem vX1_keeps_8 : mStepO h k cX1_keeps bl Q Y (8, lv, st, σ) = (mStI Y 9 lv st σ 3) := mStep_d dX1_keeps_8
theorem vX1_keeps_9 : mStepO h k cX1_keeps bl Q Y (9, lv, st, σ) = (Y (10, lv, .int (0) :: st, σ)) := by rw [mStep_d dX1_keeps_9, ← mx_c0]; rfl
theorem vX1_keeps_10 : mStepO h k cX1_keeps bl Q Y (10, lv, st, σ) = (mStI Y 12 lv st σ 4) := mStep_d dX1_keeps_10
theorem vX1_keeps_12 : mStepO h k cX1_keeps bl Q Y (12, lv, st, σ) = (mLdI Y 14 lv st σ 4) := mStep_d dX1_keeps_12
theorem vX1_keeps_14 : mStepO h k cX1_keeps bl Q Y (14, lv, st, σ) = (mLdA Y 15 lv st σ 0) := mStep_d dX1_keeps_14
theorem vX1_keeps_15 : mStepO h k cX1_keeps bl Q Y (15, lv, st, σ) = (mGet h k Y 18 lv st σ 53) := mStep_d dX1_keeps_15
theorem vX1_keeps_18 : mStepO h k cX1_keeps bl Q Y (18, lv, st, σ) = (mJ2 Y 56 21 lv st σ (fun x y => y ≤ x)) := (mStep_d dX1_keeps_18).trans (mIf2_J jt_18_38 jp_18_38)
theorem vX1_keeps_21 : mStepO h k cX1_keeps bl Q Y (21, lv, st, σ) = (mLdI Y 22 lv st σ 3) := mStep_d dX1_keeps_21
theorem vX1_keeps_22 : mStepO h k cX1_keeps bl Q Y (22, lv, st, σ) = (mLdI Y 23 lv st σ 1) := mStep_d dX1_keeps_22
theorem vX1_keeps_23 : mStepO h k cX1_keeps bl Q Y (23, lv, st, σ) = (mLdI Y 25 lv st σ 4) := mStep_d dX1_keeps_23
theorem vX1_keeps_25 : mStepO h k cX1_keeps bl Q Y (25, lv, st, σ) = (mBin Y 26 lv st σ (fun x y => x >>> (y &&& 31))) := mStep_d dX1_keeps_25
theorem vX1_keeps_26 : mStepO h k cX1_keeps bl Q Y (26, lv, st, σ) = (Y (27, lv, .int (1) :: st, σ)) := by rw [mStep_d dX1_keeps_26, ← mx_c1]; rfl
theorem vX1_keeps_27 : mStepO h k cX1_keeps bl Q Y (27, lv, st, σ) = (mBin Y 28 lv st σ (fun x y => x &&& y)) := mStep_d dX1_keeps_27
theorem vX1_keeps_28 : mStepO h k cX1_keeps bl Q Y (28, lv, st, σ) = (Y (29, lv, .int (1) :: st, σ)) := by rw [mStep_d dX1_keeps_28, ← mx_c1]; rfl
theorem vX1_keeps_29 : mStepO h k cX1_keeps bl Q Y (29, lv, st, σ) = (mN2 Y 47 32 lv st σ) := (mStep_d dX1_keeps_29).trans (mIfN2_J jt_29_18 jp_29_18)
theorem vX1_keeps_32 : mStepO h k cX1_keeps bl Q Y (32, lv, st, σ) = (mLdA Y 33 lv st σ 0) := mStep_d dX1_keeps_32
theorem vX1_keeps_33 : mStepO h k cX1_keeps bl Q Y (33, lv, st, σ) = (mGet h k Y 36 lv st σ 22) := mStep_d dX1_keeps_33
theorem vX1_keeps_36 : mStepO h k cX1_keeps bl Q Y (36, lv, st, σ) = (mLdI Y 38 lv st σ 4) := mStep_d dX1_keeps_36
theorem vX1_keeps_38 : mStepO h k cX1_keeps bl Q Y (38, lv, st, σ) = (mLdE h Y 39 lv st σ) := mStep_d dX1_keeps_38
theorem vX1_keeps_39 : mStepO h k cX1_keeps bl Q Y (39, lv, st, σ) = (mLdI Y 40 lv st σ 2) := mStep_d dX1_keeps_39
theorem vX1_keeps_40 : mStepO h k cX1_keeps bl Q Y (40, lv, st, σ) = (mN2 Y 47 43 lv st σ) := (mStep_d dX1_keeps_40).trans (mIfN2_J jt_40_7 jp_40_7)
theorem vX1_keeps_43 : mStepO h k cX1_keeps bl Q Y (43, lv, st, σ) = (Y (44, lv, .int (1) :: st, σ)) := by rw [mStep_d dX1_keeps_43, ← mx_c1]; rfl
theorem vX1_keeps_44 : mStepO h k cX1_keeps bl Q Y (44, lv, st, σ) = (Y (48, lv, st, σ)) := (mStep_d dX1_keeps_44).trans (mJ_J jt_44_4 jp_44_4)
theorem vX1_keeps_47 : mStepO h k cX1_keeps bl Q Y (47, lv, st, σ) = (Y (48, lv, .int (0) :: st, σ)) := by rw [mStep_d dX1_keeps_47, ← mx_c0]; rfl
theorem vX1_keeps_48 : mStepO h k cX1_keeps bl Q Y (48, lv, st, σ) = (mBin Y 49 lv st σ (fun x y => x + y)) := mStep_d dX1_keeps_48
theorem vX1_keeps_49 : mStepO h k cX1_keeps bl Q Y (49, lv, st, σ) = (mStI Y 50 lv st σ 3) := mStep_d dX1_keeps_49
theorem vX1_keeps_50 : mStepO h k cX1_keeps bl Q Y (50, lv, st, σ) = (mInc Y 53 lv st σ 4 (1)) := by rw [mStep_d dX1_keeps_50, ← mx_c1]; rfl
theorem vX1_keeps_53 : mStepO h k cX1_keeps bl Q Y (53, lv, st, σ) = (Y (12, lv, st, σ)) := (mStep_d dX1_keeps_53).trans (mJ_J jt_53_m41 jp_53_m41)
theorem vX1_keeps_56 : mStepO h k cX1_keeps bl Q Y (56, lv, st, σ) = (mLdI Y 57 lv st σ 3) := mStep_d dX1_keeps_56
theorem vX1_keeps_57 : mStepO h k cX1_keeps bl Q Y (57, lv, st, σ) = (mLdA Y 58 lv st σ 0) := mStep_d dX1_keeps_57
theorem vX1_keeps_58 : mStepO h k cX1_keeps bl Q Y (58, lv, st, σ) = (mGet h k Y 61 lv st σ 13) := mStep_d dX1_keeps_58
theorem vX1_keeps_61 : mStepO h k cX1_keeps bl Q Y (61, lv, st, σ) = (mJ2 Y 66 64 lv st σ (fun x y => x ≤ y)) := (mStep_d dX1_keeps_61).trans (mIf2_J jt_61_5 jp_61_5)
theorem vX1_keeps_64 : mStepO h k cX1_keeps bl Q Y (64, lv, st, σ) = (Y (65, lv, .int (0) :: st, σ)) := by rw [mStep_d dX1_keeps_64, ← mx_c0]; rfl
theorem vX1_keeps_65 : mStepO h k cX1_keeps bl Q Y (65, lv, st, σ) = (mRetI bl Q st σ) := mStep_d dX1_keeps_65
theorem vX1_keeps_66 : mStepO h k cX1_keeps bl Q Y (66, lv, st, σ) = (mInc Y 69 lv st σ 2 (1)) := by rw [mStep_d dX1_keeps_66, ← mx_c1]; rfl
theorem vX1_keeps_69 : mStepO h k cX1_keeps bl Q Y (69, lv, st, σ) = (Y (2, lv, st, σ)) := (mStep_d dX1_keeps_69).trans (mJ_J jt_69_m67 jp_69_m67)
theorem vX1_keeps_72 : mStepO h k cX1_keeps bl Q Y (72, lv, st, σ) = (Y (73, lv, .int (0) :: st, σ)) := by rw [mStep_d dX1_keeps_72, ← mx_c0]; rfl
theorem vX1_keeps_73 : mStepO h k cX1_keeps bl Q Y (73, lv, st, σ) = (mStI Y 74 lv st σ 2) := mStep_d dX1_keeps_73
theorem vX1_keeps_74 : mStepO h k cX1_keeps bl Q Y (74, lv, st, σ) = (mLdI Y 75 lv st σ 2) := mStep_d dX1_keeps_74
theorem vX1_keeps_75 : mStepO h k cX1_keeps bl Q Y (75, lv, st, σ) = (mLdA Y 76 lv st σ 0) := mStep_d dX1_keeps_75
theorem vX1_keeps_76 : mStepO h k cX1_keeps bl Q Y (76, lv, st, σ) = (mGet h k Y 79 lv st σ 53) := mStep_d dX1_keeps_76
theorem vX1_keeps_79 : mStepO h k cX1_keeps bl Q Y (79, lv, st, σ) = (mJ2 Y 110 82 lv st σ (fun x y => y ≤ x)) := (mStep_d dX1_keeps_79).trans (mIf2_J jt_79_31 jp_79_31)
theorem vX1_keeps_82 : mStepO h k cX1_keeps bl Q Y (82, lv, st, σ) = (mLdI Y 83 lv st σ 1) := mStep_d dX1_keeps_82
theorem vX1_keeps_83 : mStepO h k cX1_keeps bl Q Y (83, lv, st, σ) = (mLdI Y 84 lv st σ 2) := mStep_d dX1_keeps_83
theorem vX1_keeps_84 : mStepO h k cX1_keeps bl Q Y (84, lv, st, σ) = (mBin Y 85 lv st σ (fun x y => x >>> (y &&& 31))) := mStep_d dX1_keeps_84
theorem vX1_keeps_85 : mStepO h k cX1_keeps bl Q Y (85, lv, st, σ) = (Y (86, lv, .int (1) :: st, σ)) := by rw [mStep_d dX1_keeps_85, ← mx_c1]; rfl
theorem vX1_keeps_86 : mStepO h k cX1_keeps bl Q Y (86, lv, st, σ) = (mBin Y 87 lv st σ (fun x y => x &&& y)) := mStep_d dX1_keeps_86
theorem vX1_keeps_87 : mStepO h k cX1_keeps bl Q Y (87, lv, st, σ) = (Y (88, lv, .int (1) :: st, σ)) := by rw [mStep_d dX1_keeps_87, ← mx_c1]; rfl
theorem vX1_keeps_88 : mStepO h k cX1_keeps bl Q Y (88, lv, st, σ) = (mN2 Y 104 91 lv st σ) := (mStep_d dX1_keeps_88).trans (mIfN2_J jt_88_16 jp_88_16)
theorem vX1_keeps_91 : mStepO h k cX1_keeps bl Q Y (91, lv, st, σ) = (mLdA Y 92 lv st σ 0) := mStep_d dX1_keeps_91
theorem vX1_keeps_92 : mStepO h k cX1_keeps bl Q Y (92, lv, st, σ) = (mGet h k Y 95 lv st σ 29) := mStep_d dX1_keeps_92
theorem vX1_keeps_95 : mStepO h k cX1_keeps bl Q Y (95, lv, st, σ) = (mLdI Y 96 lv st σ 2) := mStep_d dX1_keeps_95
theorem vX1_keeps_96 : mStepO h k cX1_keeps bl Q Y (96, lv, st, σ) = (mLdE h Y 97 lv st σ) := mStep_d dX1_keeps_96
theorem vX1_keeps_97 : mStepO h k cX1_keeps bl Q Y (97, lv, st, σ) = (mLdI Y 98 lv st σ 1) := mStep_d dX1_keeps_97
theorem vX1_keeps_98 : mStepO h k cX1_keeps bl Q Y (98, lv, st, σ) = (mBin Y 99 lv st σ (fun x y => x &&& y)) := mStep_d dX1_keeps_98
theorem vX1_keeps_99 : mStepO h k cX1_keeps bl Q Y (99, lv, st, σ) = (mJ1 Y 104 102 lv st σ (fun x => x = 0)) := (mStep_d dX1_keeps_99).trans (mIf1_J jt_99_5 jp_99_5)
theorem vX1_keeps_102 : mStepO h k cX1_keeps bl Q Y (102, lv, st, σ) = (Y (103, lv, .int (0) :: st, σ)) := by rw [mStep_d dX1_keeps_102, ← mx_c0]; rfl
theorem vX1_keeps_103 : mStepO h k cX1_keeps bl Q Y (103, lv, st, σ) = (mRetI bl Q st σ) := mStep_d dX1_keeps_103
theorem vX1_keeps_104 : mStepO h k cX1_keeps bl Q Y (104, lv, st, σ) = (mInc Y 107 lv st σ 2 (1)) := by rw [mStep_d dX1_keeps_104, ← mx_c1]; rfl
theorem vX1_keeps_107 : mStepO h k cX1_keeps bl Q Y (107, lv, st, σ) = (Y (74, lv, st, σ)) := (mStep_d dX1_keeps_107).trans (mJ_J jt_107_m33 jp_107_m33)
theorem vX1_keeps_110 : mStepO h k cX1_keeps bl Q Y (110, lv, st, σ) = (Y (111, lv, .int (1) :: st, σ)) := by rw [mStep_d dX1_keeps_110, ← mx_c1]; rfl
theorem vX1_keeps_111 : mStepO h k cX1_keeps bl Q Y (111, lv, st, σ) = (mRetI bl Q st σ) := mStep_d dX1_keeps_111
theorem vX1_lists_0 : mStepO h k cX1_lists bl Q Y (0, lv, st, σ) = (mLdI Y 1 lv st σ 1) := mStep_d dX1_lists_0
theorem vX1_lists_1 : mStepO h k cX1_lists bl Q Y (1, lv, st, σ) = (mCaS k Y 4 lv st σ 70) := mStep_d dX1_lists_1
theorem vX1_lists_4 : mStepO h k cX1_lists bl Q Y (4, lv, st, σ) = (mJ1 Y 16 7 lv st σ (fun x => x = 0)) := (mStep_d dX1_lists_4).trans (mIf1_J jt_4_12 jp_4_12)
theorem vX1_lists_7 : mStepO h k cX1_lists bl Q Y (7, lv, st, σ) = (mLdI Y 8 lv st σ 2) := mStep_d dX1_lists_7
theorem vX1_lists_8 : mStepO h k cX1_lists bl Q Y (8, lv, st, σ) = (Y (9, lv, .int (1) :: st, σ)) := by rw [mStep_d dX1_lists_8, ← mx_c1]; rfl
theorem vX1_lists_9 : mStepO h k cX1_lists bl Q Y (9, lv, st, σ) = (Y (10, lv, .int (5) :: st, σ)) := by rw [mStep_d dX1_lists_9, ← mx_c5]; rfl
theorem vX1_lists_10 : mStepO h k cX1_lists bl Q Y (10, lv, st, σ) = (mCaS k Y 13 lv st σ 56) := mStep_d dX1_lists_10
theorem vX1_lists_13 : mStepO h k cX1_lists bl Q Y (13, lv, st, σ) = (mN1 Y 18 16 lv st σ) := (mStep_d dX1_lists_13).trans (mIfN1_J jt_13_5 jp_13_5)
theorem vX1_lists_16 : mStepO h k cX1_lists bl Q Y (16, lv, st, σ) = (Y (17, lv, .int (0) :: st, σ)) := by rw [mStep_d dX1_lists_16, ← mx_c0]; rfl
theorem vX1_lists_17 : mStepO h k cX1_lists bl Q Y (17, lv, st, σ) = (mRetI bl Q st σ) := mStep_d dX1_lists_17
theorem vX1_lists_18 : mStepO h k cX1_lists bl Q Y (18, lv, st, σ) = (mLdA Y 19 lv st σ 0) := mStep_d dX1_lists_18
theorem vX1_lists_19 : mStepO h k cX1_lists bl Q Y (19, lv, st, σ) = (mLdI Y 20 lv st σ 1) := mStep_d dX1_lists_19
theorem vX1_lists_20 : mStepO h k cX1_lists bl Q Y (20, lv, st, σ) = (mCaV k Y 23 lv st σ 102) := mStep_d dX1_lists_20
theorem vX1_lists_23 : mStepO h k cX1_lists bl Q Y (23, lv, st, σ) = (mStI Y 24 lv st σ 3) := mStep_d dX1_lists_23
theorem vX1_lists_24 : mStepO h k cX1_lists bl Q Y (24, lv, st, σ) = (mLdA Y 25 lv st σ 0) := mStep_d dX1_lists_24
theorem vX1_lists_25 : mStepO h k cX1_lists bl Q Y (25, lv, st, σ) = (mGet h k Y 28 lv st σ 41) := mStep_d dX1_lists_25
theorem vX1_lists_28 : mStepO h k cX1_lists bl Q Y (28, lv, st, σ) = (mLdI Y 29 lv st σ 1) := mStep_d dX1_lists_28
theorem vX1_lists_29 : mStepO h k cX1_lists bl Q Y (29, lv, st, σ) = (mLdE h Y 30 lv st σ) := mStep_d dX1_lists_29
theorem vX1_lists_30 : mStepO h k cX1_lists bl Q Y (30, lv, st, σ) = (Y (31, lv, .int (1) :: st, σ)) := by rw [mStep_d dX1_lists_30, ← mx_c1]; rfl
theorem vX1_lists_31 : mStepO h k cX1_lists bl Q Y (31, lv, st, σ) = (mBin Y 32 lv st σ (fun x y => x + y)) := mStep_d dX1_lists_31
theorem vX1_lists_32 : mStepO h k cX1_lists bl Q Y (32, lv, st, σ) = (mLdA Y 33 lv st σ 0) := mStep_d dX1_lists_32
theorem vX1_lists_33 : mStepO h k cX1_lists bl Q Y (33, lv, st, σ) = (mGet h k Y 36 lv st σ 16) := mStep_d dX1_lists_33
theorem vX1_lists_36 : mStepO h k cX1_lists bl Q Y (36, lv, st, σ) = (mDiv Y 37 lv st σ (fun x y => x - x / y * y)) := mStep_d dX1_lists_36
theorem vX1_lists_37 : mStepO h k cX1_lists bl Q Y (37, lv, st, σ) = (mN1 Y 49 40 lv st σ) := (mStep_d dX1_lists_37).trans (mIfN1_J jt_37_12 jp_37_12)
theorem vX1_lists_40 : mStepO h k cX1_lists bl Q Y (40, lv, st, σ) = (mLdI Y 41 lv st σ 3) := mStep_d dX1_lists_40
theorem vX1_lists_41 : mStepO h k cX1_lists bl Q Y (41, lv, st, σ) = (mLdA Y 42 lv st σ 0) := mStep_d dX1_lists_41
theorem vX1_lists_42 : mStepO h k cX1_lists bl Q Y (42, lv, st, σ) = (mCaV k Y 45 lv st σ 80) := mStep_d dX1_lists_42
theorem vX1_lists_45 : mStepO h k cX1_lists bl Q Y (45, lv, st, σ) = (mBin Y 46 lv st σ (fun x y => x &&& y)) := mStep_d dX1_lists_45
theorem vX1_lists_46 : mStepO h k cX1_lists bl Q Y (46, lv, st, σ) = (Y (50, lv, st, σ)) := (mStep_d dX1_lists_46).trans (mJ_J jt_46_4 jp_46_4)
theorem vX1_lists_49 : mStepO h k cX1_lists bl Q Y (49, lv, st, σ) = (Y (50, lv, .int (0) :: st, σ)) := by rw [mStep_d dX1_lists_49, ← mx_c0]; rfl
theorem vX1_lists_50 : mStepO h k cX1_lists bl Q Y (50, lv, st, σ) = (mStI Y 52 lv st σ 4) := mStep_d dX1_lists_50
theorem vX1_lists_52 : mStepO h k cX1_lists bl Q Y (52, lv, st, σ) = (Y (53, lv, .int (0) :: st, σ)) := by rw [mStep_d dX1_lists_52, ← mx_c0]; rfl
theorem vX1_lists_53 : mStepO h k cX1_lists bl Q Y (53, lv, st, σ) = (mStI Y 55 lv st σ 5) := mStep_d dX1_lists_53
theorem vX1_lists_55 : mStepO h k cX1_lists bl Q Y (55, lv, st, σ) = (mLdI Y 57 lv st σ 5) := mStep_d dX1_lists_55
theorem vX1_lists_57 : mStepO h k cX1_lists bl Q Y (57, lv, st, σ) = (mLdA Y 58 lv st σ 0) := mStep_d dX1_lists_57
theorem vX1_lists_58 : mStepO h k cX1_lists bl Q Y (58, lv, st, σ) = (mGet h k Y 61 lv st σ 53) := mStep_d dX1_lists_58
theorem vX1_lists_61 : mStepO h k cX1_lists bl Q Y (61, lv, st, σ) = (mJ2 Y 84 64 lv st σ (fun x y => y ≤ x)) := (mStep_d dX1_lists_61).trans (mIf2_J jt_61_23 jp_61_23)
theorem vX1_lists_64 : mStepO h k cX1_lists bl Q Y (64, lv, st, σ) = (mLdA Y 65 lv st σ 0) := mStep_d dX1_lists_64
theorem vX1_lists_65 : mStepO h k cX1_lists bl Q Y (65, lv, st, σ) = (mGet h k Y 68 lv st σ 50) := mStep_d dX1_lists_65
theorem vX1_lists_68 : mStepO h k cX1_lists bl Q Y (68, lv, st, σ) = (mLdI Y 70 lv st σ 5) := mStep_d dX1_lists_68
theorem vX1_lists_70 : mStepO h k cX1_lists bl Q Y (70, lv, st, σ) = (mLdA Y 71 lv st σ 0) := mStep_d dX1_lists_70
theorem vX1_lists_71 : mStepO h k cX1_lists bl Q Y (71, lv, st, σ) = (mLdI Y 72 lv st σ 1) := mStep_d dX1_lists_71
theorem vX1_lists_72 : mStepO h k cX1_lists bl Q Y (72, lv, st, σ) = (mLdI Y 74 lv st σ 5) := mStep_d dX1_lists_72
theorem vX1_lists_74 : mStepO h k cX1_lists bl Q Y (74, lv, st, σ) = (mCaV k Y 77 lv st σ 99) := mStep_d dX1_lists_74
theorem vX1_lists_77 : mStepO h k cX1_lists bl Q Y (77, lv, st, σ) = (mStE h Y 78 lv st σ) := mStep_d dX1_lists_77
theorem vX1_lists_78 : mStepO h k cX1_lists bl Q Y (78, lv, st, σ) = (mInc Y 81 lv st σ 5 (1)) := by rw [mStep_d dX1_lists_78, ← mx_c1]; rfl
theorem vX1_lists_81 : mStepO h k cX1_lists bl Q Y (81, lv, st, σ) = (Y (55, lv, st, σ)) := (mStep_d dX1_lists_81).trans (mJ_J jt_81_m26 jp_81_m26)
theorem vX1_lists_84 : mStepO h k cX1_lists bl Q Y (84, lv, st, σ) = (mLdA Y 85 lv st σ 0) := mStep_d dX1_lists_84
theorem vX1_lists_85 : mStepO h k cX1_lists bl Q Y (85, lv, st, σ) = (Y (86, lv, .int (0) :: st, σ)) := by rw [mStep_d dX1_lists_85, ← mx_c0]; rfl
theorem vX1_lists_86 : mStepO h k cX1_lists bl Q Y (86, lv, st, σ) = (mPut h k Y 89 lv st σ 105) := mStep_d dX1_lists_86
theorem vX1_lists_89 : mStepO h k cX1_lists bl Q Y (89, lv, st, σ) = (mLdA Y 90 lv st σ 0) := mStep_d dX1_lists_89
theorem vX1_lists_90 : mStepO h k cX1_lists bl Q Y (90, lv, st, σ) = (Y (91, lv, .int (0) :: st, σ)) := by rw [mStep_d dX1_lists_90, ← mx_c0]; rfl
theorem vX1_lists_91 : mStepO h k cX1_lists bl Q Y (91, lv, st, σ) = (mPut h k Y 94 lv st σ 108) := mStep_d dX1_lists_91
theorem vX1_lists_94 : mStepO h k cX1_lists bl Q Y (94, lv, st, σ) = (Y (95, lv, .int (1) :: st, σ)) := by rw [mStep_d dX1_lists_94, ← mx_c1]; rfl
theorem vX1_lists_95 : mStepO h k cX1_lists bl Q Y (95, lv, st, σ) = (mStI Y 97 lv st σ 5) := mStep_d dX1_lists_95
theorem vX1_lists_97 : mStepO h k cX1_lists bl Q Y (97, lv, st, σ) = (mLdI Y 99 lv st σ 5) := mStep_d dX1_lists_97
theorem vX1_lists_99 : mStepO h k cX1_lists bl Q Y (99, lv, st, σ) = (Y (100, lv, .int (1) :: st, σ)) := by rw [mStep_d dX1_lists_99, ← mx_c1]; rfl
theorem vX1_lists_100 : mStepO h k cX1_lists bl Q Y (100, lv, st, σ) = (mLdA Y 101 lv st σ 0) := mStep_d dX1_lists_100
theorem vX1_lists_101 : mStepO h k cX1_lists bl Q Y (101, lv, st, σ) = (mGet h k Y 104 lv st σ 53) := mStep_d dX1_lists_101
theorem vX1_lists_104 : mStepO h k cX1_lists bl Q Y (104, lv, st, σ) = (mBin Y 105 lv st σ (fun x y => x <<< (y &&& 31))) := mStep_d dX1_lists_104
theorem vX1_lists_105 : mStepO h k cX1_lists bl Q Y (105, lv, st, σ) = (mJ2 Y 259 108 lv st σ (fun x y => y ≤ x)) := (mStep_d dX1_lists_105).trans (mIf2_J jt_105_154 jp_105_154)
theorem vX1_lists_108 : mStepO h k cX1_lists bl Q Y (108, lv, st, σ) = (mLdI Y 110 lv st σ 5) := mStep_d dX1_lists_108
theorem vX1_lists_110 : mStepO h k cX1_lists bl Q Y (110, lv, st, σ) = (mLdI Y 111 lv st σ 3) := mStep_d dX1_lists_110
theorem vX1_lists_111 : mStepO h k cX1_lists bl Q Y (111, lv, st, σ) = (Y (112, lv, .int (-1) :: st, σ)) := by rw [mStep_d dX1_lists_111, ← mx_cm1]; rfl
theorem vX1_lists_112 : mStepO h k cX1_lists bl Q Y (112, lv, st, σ) = (mBin Y 113 lv st σ (fun x y => x ^^^ y)) := mStep_d dX1_lists_112
theorem vX1_lists_113 : mStepO h k cX1_lists bl Q Y (113, lv, st, σ) = (mBin Y 114 lv st σ (fun x y => x &&& y)) := mStep_d dX1_lists_113
theorem vX1_lists_114 : mStepO h k cX1_lists bl Q Y (114, lv, st, σ) = (mN1 Y 253 117 lv st σ) := (mStep_d dX1_lists_114).trans (mIfN1_J jt_114_139 jp_114_139)
theorem vX1_lists_117 : mStepO h k cX1_lists bl Q Y (117, lv, st, σ) = (mLdI Y 119 lv st σ 5) := mStep_d dX1_lists_117
theorem vX1_lists_119 : mStepO h k cX1_lists bl Q Y (119, lv, st, σ) = (mCaS k Y 122 lv st σ 111) := mStep_d dX1_lists_119
theorem vX1_lists_122 : mStepO h k cX1_lists bl Q Y (122, lv, st, σ) = (mLdI Y 123 lv st σ 2) := mStep_d dX1_lists_122
theorem vX1_lists_123 : mStepO h k cX1_lists bl Q Y (123, lv, st, σ) = (mJ2 Y 253 126 lv st σ (fun x y => y < x)) := (mStep_d dX1_lists_123).trans (mIf2_J jt_123_130 jp_123_130)
theorem vX1_lists_126 : mStepO h k cX1_lists bl Q Y (126, lv, st, σ) = (mLdI Y 128 lv st σ 5) := mStep_d dX1_lists_126
theorem vX1_lists_128 : mStepO h k cX1_lists bl Q Y (128, lv, st, σ) = (mCaS k Y 131 lv st σ 111) := mStep_d dX1_lists_128
theorem vX1_lists_131 : mStepO h k cX1_lists bl Q Y (131, lv, st, σ) = (mLdA Y 132 lv st σ 0) := mStep_d dX1_lists_131
theorem vX1_lists_132 : mStepO h k cX1_lists bl Q Y (132, lv, st, σ) = (mGet h k Y 135 lv st σ 105) := mStep_d dX1_lists_132
theorem vX1_lists_135 : mStepO h k cX1_lists bl Q Y (135, lv, st, σ) = (mCaS k Y 138 lv st σ 111) := mStep_d dX1_lists_135
theorem vX1_lists_138 : mStepO h k cX1_lists bl Q Y (138, lv, st, σ) = (mJ2 Y 253 141 lv st σ (fun x y => x < y)) := (mStep_d dX1_lists_138).trans (mIf2_J jt_138_115 jp_138_115)
theorem vX1_lists_141 : mStepO h k cX1_lists bl Q Y (141, lv, st, σ) = (mLdI Y 143 lv st σ 4) := mStep_d dX1_lists_141
theorem vX1_lists_143 : mStepO h k cX1_lists bl Q Y (143, lv, st, σ) = (mJ1 Y 154 146 lv st σ (fun x => x = 0)) := (mStep_d dX1_lists_143).trans (mIf1_J jt_143_11 jp_143_11)
theorem vX1_lists_146 : mStepO h k cX1_lists bl Q Y (146, lv, st, σ) = (mLdI Y 148 lv st σ 5) := mStep_d dX1_lists_146
theorem vX1_lists_148 : mStepO h k cX1_lists bl Q Y (148, lv, st, σ) = (mLdI Y 150 lv st σ 4) := mStep_d dX1_lists_148
theorem vX1_lists_150 : mStepO h k cX1_lists bl Q Y (150, lv, st, σ) = (mBin Y 151 lv st σ (fun x y => x &&& y)) := mStep_d dX1_lists_150
theorem vX1_lists_151 : mStepO h k cX1_lists bl Q Y (151, lv, st, σ) = (mJ1 Y 253 154 lv st σ (fun x => x = 0)) := (mStep_d dX1_lists_151).trans (mIf1_J jt_151_102 jp_151_102)
theorem vX1_lists_154 : mStepO h k cX1_lists bl Q Y (154, lv, st, σ) = (mLdA Y 155 lv st σ 0) := mStep_d dX1_lists_154
theorem vX1_lists_155 : mStepO h k cX1_lists bl Q Y (155, lv, st, σ) = (mLdI Y 157 lv st σ 5) := mStep_d dX1_lists_155
theorem vX1_lists_157 : mStepO h k cX1_lists bl Q Y (157, lv, st, σ) = (mCaV k Y 160 lv st σ 114) := mStep_d dX1_lists_157
theorem vX1_lists_160 : mStepO h k cX1_lists bl Q Y (160, lv, st, σ) = (mN1 Y 166 163 lv st σ) := (mStep_d dX1_lists_160).trans (mIfN1_J jt_160_6 jp_160_6)
theorem vX1_lists_163 : mStepO h k cX1_lists bl Q Y (163, lv, st, σ) = (Y (253, lv, st, σ)) := (mStep_d dX1_lists_163).trans (mJ_J jt_163_90 jp_163_90)
theorem vX1_lists_166 : mStepO h k cX1_lists bl Q Y (166, lv, st, σ) = (Y (167, lv, .int (0) :: st, σ)) := by rw [mStep_d dX1_lists_166, ← mx_c0]; rfl
theorem vX1_lists_167 : mStepO h k cX1_lists bl Q Y (167, lv, st, σ) = (mStI Y 169 lv st σ 6) := mStep_d dX1_lists_167
theorem vX1_lists_169 : mStepO h k cX1_lists bl Q Y (169, lv, st, σ) = (Y (170, lv, .int (0) :: st, σ)) := by rw [mStep_d dX1_lists_169, ← mx_c0]; rfl
theorem vX1_lists_170 : mStepO h k cX1_lists bl Q Y (170, lv, st, σ) = (mStI Y 172 lv st σ 7) := mStep_d dX1_lists_170
theorem vX1_lists_172 : mStepO h k cX1_lists bl Q Y (172, lv, st, σ) = (mLdI Y 174 lv st σ 7) := mStep_d dX1_lists_172
theorem vX1_lists_174 : mStepO h k cX1_lists bl Q Y (174, lv, st, σ) = (mLdA Y 175 lv st σ 0) := mStep_d dX1_lists_174
theorem vX1_lists_175 : mStepO h k cX1_lists bl Q Y (175, lv, st, σ) = (mGet h k Y 178 lv st σ 53) := mStep_d dX1_lists_175
theorem vX1_lists_178 : mStepO h k cX1_lists bl Q Y (178, lv, st, σ) = (mJ2 Y 214 181 lv st σ (fun x y => y ≤ x)) := (mStep_d dX1_lists_178).trans (mIf2_J jt_178_36 jp_178_36)
theorem vX1_lists_181 : mStepO h k cX1_lists bl Q Y (181, lv, st, σ) = (mLdI Y 183 lv st σ 6) := mStep_d dX1_lists_181
theorem vX1_lists_183 : mStepO h k cX1_lists bl Q Y (183, lv, st, σ) = (mLdI Y 185 lv st σ 5) := mStep_d dX1_lists_183
theorem vX1_lists_185 : mStepO h k cX1_lists bl Q Y (185, lv, st, σ) = (mLdI Y 187 lv st σ 7) := mStep_d dX1_lists_185
theorem vX1_lists_187 : mStepO h k cX1_lists bl Q Y (187, lv, st, σ) = (mBin Y 188 lv st σ (fun x y => x >>> (y &&& 31))) := mStep_d dX1_lists_187
theorem vX1_lists_188 : mStepO h k cX1_lists bl Q Y (188, lv, st, σ) = (Y (189, lv, .int (1) :: st, σ)) := by rw [mStep_d dX1_lists_188, ← mx_c1]; rfl
theorem vX1_lists_189 : mStepO h k cX1_lists bl Q Y (189, lv, st, σ) = (mBin Y 190 lv st σ (fun x y => x &&& y)) := mStep_d dX1_lists_189
theorem vX1_lists_190 : mStepO h k cX1_lists bl Q Y (190, lv, st, σ) = (Y (191, lv, .int (1) :: st, σ)) := by rw [mStep_d dX1_lists_190, ← mx_c1]; rfl
theorem vX1_lists_191 : mStepO h k cX1_lists bl Q Y (191, lv, st, σ) = (mN2 Y 204 194 lv st σ) := (mStep_d dX1_lists_191).trans (mIfN2_J jt_191_13 jp_191_13)
theorem vX1_lists_194 : mStepO h k cX1_lists bl Q Y (194, lv, st, σ) = (mLdA Y 195 lv st σ 0) := mStep_d dX1_lists_194
theorem vX1_lists_195 : mStepO h k cX1_lists bl Q Y (195, lv, st, σ) = (mGet h k Y 198 lv st σ 50) := mStep_d dX1_lists_195
theorem vX1_lists_198 : mStepO h k cX1_lists bl Q Y (198, lv, st, σ) = (mLdI Y 200 lv st σ 7) := mStep_d dX1_lists_198
theorem vX1_lists_200 : mStepO h k cX1_lists bl Q Y (200, lv, st, σ) = (mLdE h Y 201 lv st σ) := mStep_d dX1_lists_200
theorem vX1_lists_201 : mStepO h k cX1_lists bl Q Y (201, lv, st, σ) = (Y (205, lv, st, σ)) := (mStep_d dX1_lists_201).trans (mJ_J jt_201_4 jp_201_4)
theorem vX1_lists_204 : mStepO h k cX1_lists bl Q Y (204, lv, st, σ) = (Y (205, lv, .int (0) :: st, σ)) := by rw [mStep_d dX1_lists_204, ← mx_c0]; rfl
theorem vX1_lists_205 : mStepO h k cX1_lists bl Q Y (205, lv, st, σ) = (mBin Y 206 lv st σ (fun x y => x + y)) := mStep_d dX1_lists_205
theorem vX1_lists_206 : mStepO h k cX1_lists bl Q Y (206, lv, st, σ) = (mStI Y 208 lv st σ 6) := mStep_d dX1_lists_206
theorem vX1_lists_208 : mStepO h k cX1_lists bl Q Y (208, lv, st, σ) = (mInc Y 211 lv st σ 7 (1)) := by rw [mStep_d dX1_lists_208, ← mx_c1]; rfl
theorem vX1_lists_211 : mStepO h k cX1_lists bl Q Y (211, lv, st, σ) = (Y (172, lv, st, σ)) := (mStep_d dX1_lists_211).trans (mJ_J jt_211_m39 jp_211_m39)
theorem vX1_lists_214 : mStepO h k cX1_lists bl Q Y (214, lv, st, σ) = (mLdI Y 216 lv st σ 5) := mStep_d dX1_lists_214
theorem vX1_lists_216 : mStepO h k cX1_lists bl Q Y (216, lv, st, σ) = (mCaS k Y 219 lv st σ 111) := mStep_d dX1_lists_216
theorem vX1_lists_219 : mStepO h k cX1_lists bl Q Y (219, lv, st, σ) = (mLdA Y 220 lv st σ 0) := mStep_d dX1_lists_219
theorem vX1_lists_220 : mStepO h k cX1_lists bl Q Y (220, lv, st, σ) = (mGet h k Y 223 lv st σ 105) := mStep_d dX1_lists_220
theorem vX1_lists_223 : mStepO h k cX1_lists bl Q Y (223, lv, st, σ) = (mCaS k Y 226 lv st σ 111) := mStep_d dX1_lists_223
theorem vX1_lists_226 : mStepO h k cX1_lists bl Q Y (226, lv, st, σ) = (mN2 Y 241 229 lv st σ) := (mStep_d dX1_lists_226).trans (mIfN2_J jt_226_15 jp_226_15)
theorem vX1_lists_229 : mStepO h k cX1_lists bl Q Y (229, lv, st, σ) = (mLdI Y 231 lv st σ 6) := mStep_d dX1_lists_229
theorem vX1_lists_231 : mStepO h k cX1_lists bl Q Y (231, lv, st, σ) = (mLdA Y 232 lv st σ 0) := mStep_d dX1_lists_231
theorem vX1_lists_232 : mStepO h k cX1_lists bl Q Y (232, lv, st, σ) = (mGet h k Y 235 lv st σ 108) := mStep_d dX1_lists_232
theorem vX1_lists_235 : mStepO h k cX1_lists bl Q Y (235, lv, st, σ) = (mJ2 Y 241 238 lv st σ (fun x y => y < x)) := (mStep_d dX1_lists_235).trans (mIf2_J jt_235_6 jp_235_6)
theorem vX1_lists_238 : mStepO h k cX1_lists bl Q Y (238, lv, st, σ) = (Y (253, lv, st, σ)) := (mStep_d dX1_lists_238).trans (mJ_J jt_238_15 jp_238_15)
theorem vX1_lists_241 : mStepO h k cX1_lists bl Q Y (241, lv, st, σ) = (mLdA Y 242 lv st σ 0) := mStep_d dX1_lists_241
theorem vX1_lists_242 : mStepO h k cX1_lists bl Q Y (242, lv, st, σ) = (mLdI Y 244 lv st σ 5) := mStep_d dX1_lists_242
theorem vX1_lists_244 : mStepO h k cX1_lists bl Q Y (244, lv, st, σ) = (mPut h k Y 247 lv st σ 105) := mStep_d dX1_lists_244
theorem vX1_lists_247 : mStepO h k cX1_lists bl Q Y (247, lv, st, σ) = (mLdA Y 248 lv st σ 0) := mStep_d dX1_lists_247
theorem vX1_lists_248 : mStepO h k cX1_lists bl Q Y (248, lv, st, σ) = (mLdI Y 250 lv st σ 6) := mStep_d dX1_lists_248
theorem vX1_lists_250 : mStepO h k cX1_lists bl Q Y (250, lv, st, σ) = (mPut h k Y 253 lv st σ 108) := mStep_d dX1_lists_250
theorem vX1_lists_253 : mStepO h k cX1_lists bl Q Y (253, lv, st, σ) = (mInc Y 256 lv st σ 5 (1)) := by rw [mStep_d dX1_lists_253, ← mx_c1]; rfl
theorem vX1_lists_256 : mStepO h k cX1_lists bl Q Y (256, lv, st, σ) = (Y (97, lv, st, σ)) := (mStep_d dX1_lists_256).trans (mJ_J jt_256_m159 jp_256_m159)
theorem vX1_lists_259 : mStepO h k cX1_lists bl Q Y (259, lv, st, σ) = (Y (260, lv, .int (1) :: st, σ)) := by rw [mStep_d dX1_lists_259, ← mx_c1]; rfl
theorem vX1_lists_260 : mStepO h k cX1_lists bl Q Y (260, lv, st, σ) = (mRetI bl Q st σ) := mStep_d dX1_lists_260
theorem vX1_list_0 : mStepO h k cX1_list bl Q Y (0, lv, st, σ) = (mLdI Y 1 lv st σ 3) := mStep_d dX1_list_0
theorem vX1_list_1 : mStepO h k cX1_list bl Q Y (1, lv, st, σ) = (Y (2, lv, .int (0) :: st, σ)) := by rw [mStep_d dX1_list_1, ← mx_c0]; rfl
theorem vX1_list_2 : mStepO h k cX1_list bl Q Y (2, lv, st, σ) = (Y (3, lv, .int (1) :: st, σ)) := by rw [mStep_d dX1_list_2, ← mx_c1]; rfl
theorem vX1_list_3 : mStepO h k cX1_list bl Q Y (3, lv, st, σ) = (mCaS k Y 6 lv st σ 56) := mStep_d dX1_list_3
theorem vX1_list_6 : mStepO h k cX1_list bl Q Y (6, lv, st, σ) = (mJ1 Y 36 9 lv st σ (fun x => x = 0)) := (mStep_d dX1_list_6).trans (mIf1_J jt_6_30 jp_6_30)
theorem vX1_list_9 : mStepO h k cX1_list bl Q Y (9, lv, st, σ) = (mLdA Y 10 lv st σ 0) := mStep_d dX1_list_9
theorem vX1_list_10 : mStepO h k cX1_list bl Q Y (10, lv, st, σ) = (mLdI Y 11 lv st σ 1) := mStep_d dX1_list_10
theorem vX1_list_11 : mStepO h k cX1_list bl Q Y (11, lv, st, σ) = (mLdI Y 12 lv st σ 2) := mStep_d dX1_list_11
theorem vX1_list_12 : mStepO h k cX1_list bl Q Y (12, lv, st, σ) = (mCaV k Y 15 lv st σ 117) := mStep_d dX1_list_12
theorem vX1_list_15 : mStepO h k cX1_list bl Q Y (15, lv, st, σ) = (mJ1 Y 36 18 lv st σ (fun x => x = 0)) := (mStep_d dX1_list_15).trans (mIf1_J jt_15_21 jp_15_21)
theorem vX1_list_18 : mStepO h k cX1_list bl Q Y (18, lv, st, σ) = (mLdI Y 19 lv st σ 3) := mStep_d dX1_list_18
theorem vX1_list_19 : mStepO h k cX1_list bl Q Y (19, lv, st, σ) = (mN1 Y 29 22 lv st σ) := (mStep_d dX1_list_19).trans (mIfN1_J jt_19_10 jp_19_10)
theorem vX1_list_22 : mStepO h k cX1_list bl Q Y (22, lv, st, σ) = (mLdA Y 23 lv st σ 0) := mStep_d dX1_list_22
theorem vX1_list_23 : mStepO h k cX1_list bl Q Y (23, lv, st, σ) = (mGet h k Y 26 lv st σ 105) := mStep_d dX1_list_23
theorem vX1_list_26 : mStepO h k cX1_list bl Q Y (26, lv, st, σ) = (Y (38, lv, st, σ)) := (mStep_d dX1_list_26).trans (mJ_J jt_26_12 jp_26_12)
theorem vX1_list_29 : mStepO h k cX1_list bl Q Y (29, lv, st, σ) = (mLdA Y 30 lv st σ 0) := mStep_d dX1_list_29
theorem vX1_list_30 : mStepO h k cX1_list bl Q Y (30, lv, st, σ) = (mGet h k Y 33 lv st σ 108) := mStep_d dX1_list_30
theorem vX1_list_33 : mStepO h k cX1_list bl Q Y (33, lv, st, σ) = (Y (38, lv, st, σ)) := (mStep_d dX1_list_33).trans (mJ_J jt_33_5 jp_33_5)
theorem vX1_list_36 : mStepO h k cX1_list bl Q Y (36, lv, st, σ) = (mKon k Y 38 lv st σ 94) := mStep_d dX1_list_36
theorem vX1_list_38 : mStepO h k cX1_list bl Q Y (38, lv, st, σ) = (mRetI bl Q st σ) := mStep_d dX1_list_38
theorem vX1_show_0 : mStepO h k cX1_show bl Q Y (0, lv, st, σ) = (mLdA Y 1 lv st σ 0) := mStep_d dX1_show_0
theorem vX1_show_1 : mStepO h k cX1_show bl Q Y (1, lv, st, σ) = (mLdI Y 2 lv st σ 1) := mStep_d dX1_show_1
theorem vX1_show_2 : mStepO h k cX1_show bl Q Y (2, lv, st, σ) = (mLdI Y 3 lv st σ 2) := mStep_d dX1_show_2
theorem vX1_show_3 : mStepO h k cX1_show bl Q Y (3, lv, st, σ) = (mCaV k Y 6 lv st σ 117) := mStep_d dX1_show_3
theorem vX1_show_6 : mStepO h k cX1_show bl Q Y (6, lv, st, σ) = (mN1 Y 11 9 lv st σ) := (mStep_d dX1_show_6).trans (mIfN1_J jt_6_5 jp_6_5)
theorem vX1_show_9 : mStepO h k cX1_show bl Q Y (9, lv, st, σ) = (Y (10, lv, .int (-1) :: st, σ)) := by rw [mStep_d dX1_show_9, ← mx_cm1]; rfl
theorem vX1_show_10 : mStepO h k cX1_show bl Q Y (10, lv, st, σ) = (mRetI bl Q st σ) := mStep_d dX1_show_10
theorem vX1_show_11 : mStepO h k cX1_show bl Q Y (11, lv, st, σ) = (mLdA Y 12 lv st σ 0) := mStep_d dX1_show_11
theorem vX1_show_12 : mStepO h k cX1_show bl Q Y (12, lv, st, σ) = (mGet h k Y 15 lv st σ 41) := mStep_d dX1_show_12
theorem vX1_show_15 : mStepO h k cX1_show bl Q Y (15, lv, st, σ) = (mLdI Y 16 lv st σ 1) := mStep_d dX1_show_15
theorem vX1_show_16 : mStepO h k cX1_show bl Q Y (16, lv, st, σ) = (mDup2 Y 17 lv st σ) := mStep_d dX1_show_16
theorem vX1_show_17 : mStepO h k cX1_show bl Q Y (17, lv, st, σ) = (mLdE h Y 18 lv st σ) := mStep_d dX1_show_17
theorem vX1_show_18 : mStepO h k cX1_show bl Q Y (18, lv, st, σ) = (Y (19, lv, .int (1) :: st, σ)) := by rw [mStep_d dX1_show_18, ← mx_c1]; rfl
theorem vX1_show_19 : mStepO h k cX1_show bl Q Y (19, lv, st, σ) = (mBin Y 20 lv st σ (fun x y => x + y)) := mStep_d dX1_show_19
theorem vX1_show_20 : mStepO h k cX1_show bl Q Y (20, lv, st, σ) = (mStE h Y 21 lv st σ) := mStep_d dX1_show_20
theorem vX1_show_21 : mStepO h k cX1_show bl Q Y (21, lv, st, σ) = (Y (22, lv, .int (0) :: st, σ)) := by rw [mStep_d dX1_show_21, ← mx_c0]; rfl
theorem vX1_show_22 : mStepO h k cX1_show bl Q Y (22, lv, st, σ) = (mStI Y 23 lv st σ 3) := mStep_d dX1_show_22
theorem vX1_show_23 : mStepO h k cX1_show bl Q Y (23, lv, st, σ) = (mLdI Y 24 lv st σ 3) := mStep_d dX1_show_23
theorem vX1_show_24 : mStepO h k cX1_show bl Q Y (24, lv, st, σ) = (mLdA Y 25 lv st σ 0) := mStep_d dX1_show_24
theorem vX1_show_25 : mStepO h k cX1_show bl Q Y (25, lv, st, σ) = (mGet h k Y 28 lv st σ 53) := mStep_d dX1_show_25
theorem vX1_show_28 : mStepO h k cX1_show bl Q Y (28, lv, st, σ) = (mJ2 Y 109 31 lv st σ (fun x y => y ≤ x)) := (mStep_d dX1_show_28).trans (mIf2_J jt_28_81 jp_28_81)
theorem vX1_show_31 : mStepO h k cX1_show bl Q Y (31, lv, st, σ) = (mLdA Y 32 lv st σ 0) := mStep_d dX1_show_31
theorem vX1_show_32 : mStepO h k cX1_show bl Q Y (32, lv, st, σ) = (mGet h k Y 35 lv st σ 105) := mStep_d dX1_show_32
theorem vX1_show_35 : mStepO h k cX1_show bl Q Y (35, lv, st, σ) = (mLdI Y 36 lv st σ 3) := mStep_d dX1_show_35
theorem vX1_show_36 : mStepO h k cX1_show bl Q Y (36, lv, st, σ) = (mBin Y 37 lv st σ (fun x y => x >>> (y &&& 31))) := mStep_d dX1_show_36
theorem vX1_show_37 : mStepO h k cX1_show bl Q Y (37, lv, st, σ) = (Y (38, lv, .int (1) :: st, σ)) := by rw [mStep_d dX1_show_37, ← mx_c1]; rfl
theorem vX1_show_38 : mStepO h k cX1_show bl Q Y (38, lv, st, σ) = (mBin Y 39 lv st σ (fun x y => x &&& y)) := mStep_d dX1_show_38
theorem vX1_show_39 : mStepO h k cX1_show bl Q Y (39, lv, st, σ) = (mN1 Y 45 42 lv st σ) := (mStep_d dX1_show_39).trans (mIfN1_J jt_39_6 jp_39_6)
theorem vX1_show_42 : mStepO h k cX1_show bl Q Y (42, lv, st, σ) = (Y (103, lv, st, σ)) := (mStep_d dX1_show_42).trans (mJ_J jt_42_61 jp_42_61)
theorem vX1_show_45 : mStepO h k cX1_show bl Q Y (45, lv, st, σ) = (Y (47, lv, .int (12) :: st, σ)) := by rw [mStep_d dX1_show_45, ← mx_b12]; rfl
theorem vX1_show_47 : mStepO h k cX1_show bl Q Y (47, lv, st, σ) = (mLdI Y 48 lv st σ 1) := mStep_d dX1_show_47
theorem vX1_show_48 : mStepO h k cX1_show bl Q Y (48, lv, st, σ) = (mBin Y 49 lv st σ (fun x y => x * y)) := mStep_d dX1_show_48
theorem vX1_show_49 : mStepO h k cX1_show bl Q Y (49, lv, st, σ) = (mLdI Y 50 lv st σ 3) := mStep_d dX1_show_49
theorem vX1_show_50 : mStepO h k cX1_show bl Q Y (50, lv, st, σ) = (mBin Y 51 lv st σ (fun x y => x + y)) := mStep_d dX1_show_50
theorem vX1_show_51 : mStepO h k cX1_show bl Q Y (51, lv, st, σ) = (mStI Y 53 lv st σ 4) := mStep_d dX1_show_51
theorem vX1_show_53 : mStepO h k cX1_show bl Q Y (53, lv, st, σ) = (mLdA Y 54 lv st σ 0) := mStep_d dX1_show_53
theorem vX1_show_54 : mStepO h k cX1_show bl Q Y (54, lv, st, σ) = (mGet h k Y 57 lv st σ 44) := mStep_d dX1_show_54
theorem vX1_show_57 : mStepO h k cX1_show bl Q Y (57, lv, st, σ) = (mLdI Y 59 lv st σ 4) := mStep_d dX1_show_57
theorem vX1_show_59 : mStepO h k cX1_show bl Q Y (59, lv, st, σ) = (mDup2 Y 60 lv st σ) := mStep_d dX1_show_59
theorem vX1_show_60 : mStepO h k cX1_show bl Q Y (60, lv, st, σ) = (mLdE h Y 61 lv st σ) := mStep_d dX1_show_60
theorem vX1_show_61 : mStepO h k cX1_show bl Q Y (61, lv, st, σ) = (Y (62, lv, .int (1) :: st, σ)) := by rw [mStep_d dX1_show_61, ← mx_c1]; rfl
theorem vX1_show_62 : mStepO h k cX1_show bl Q Y (62, lv, st, σ) = (mBin Y 63 lv st σ (fun x y => x + y)) := mStep_d dX1_show_62
theorem vX1_show_63 : mStepO h k cX1_show bl Q Y (63, lv, st, σ) = (mStE h Y 64 lv st σ) := mStep_d dX1_show_63
theorem vX1_show_64 : mStepO h k cX1_show bl Q Y (64, lv, st, σ) = (mLdA Y 65 lv st σ 0) := mStep_d dX1_show_64
theorem vX1_show_65 : mStepO h k cX1_show bl Q Y (65, lv, st, σ) = (mGet h k Y 68 lv st σ 44) := mStep_d dX1_show_65
theorem vX1_show_68 : mStepO h k cX1_show bl Q Y (68, lv, st, σ) = (mLdI Y 70 lv st σ 4) := mStep_d dX1_show_68
theorem vX1_show_70 : mStepO h k cX1_show bl Q Y (70, lv, st, σ) = (mLdE h Y 71 lv st σ) := mStep_d dX1_show_70
theorem vX1_show_71 : mStepO h k cX1_show bl Q Y (71, lv, st, σ) = (mLdA Y 72 lv st σ 0) := mStep_d dX1_show_71
theorem vX1_show_72 : mStepO h k cX1_show bl Q Y (72, lv, st, σ) = (mGet h k Y 75 lv st σ 19) := mStep_d dX1_show_72
theorem vX1_show_75 : mStepO h k cX1_show bl Q Y (75, lv, st, σ) = (mJ2 Y 81 78 lv st σ (fun x y => y ≤ x)) := (mStep_d dX1_show_75).trans (mIf2_J jt_75_6 jp_75_6)
theorem vX1_show_78 : mStepO h k cX1_show bl Q Y (78, lv, st, σ) = (Y (103, lv, st, σ)) := (mStep_d dX1_show_78).trans (mJ_J jt_78_25 jp_78_25)
theorem vX1_show_81 : mStepO h k cX1_show bl Q Y (81, lv, st, σ) = (mLdA Y 82 lv st σ 0) := mStep_d dX1_show_81
theorem vX1_show_82 : mStepO h k cX1_show bl Q Y (82, lv, st, σ) = (mGet h k Y 85 lv st σ 44) := mStep_d dX1_show_82
theorem vX1_show_85 : mStepO h k cX1_show bl Q Y (85, lv, st, σ) = (mLdI Y 87 lv st σ 4) := mStep_d dX1_show_85
theorem vX1_show_87 : mStepO h k cX1_show bl Q Y (87, lv, st, σ) = (Y (88, lv, .int (0) :: st, σ)) := by rw [mStep_d dX1_show_87, ← mx_c0]; rfl
theorem vX1_show_88 : mStepO h k cX1_show bl Q Y (88, lv, st, σ) = (mStE h Y 89 lv st σ) := mStep_d dX1_show_88
theorem vX1_show_89 : mStepO h k cX1_show bl Q Y (89, lv, st, σ) = (mLdA Y 90 lv st σ 0) := mStep_d dX1_show_89
theorem vX1_show_90 : mStepO h k cX1_show bl Q Y (90, lv, st, σ) = (mGet h k Y 93 lv st σ 47) := mStep_d dX1_show_90
theorem vX1_show_93 : mStepO h k cX1_show bl Q Y (93, lv, st, σ) = (mLdI Y 95 lv st σ 4) := mStep_d dX1_show_93
theorem vX1_show_95 : mStepO h k cX1_show bl Q Y (95, lv, st, σ) = (mLdA Y 96 lv st σ 0) := mStep_d dX1_show_95
theorem vX1_show_96 : mStepO h k cX1_show bl Q Y (96, lv, st, σ) = (mGet h k Y 99 lv st σ 60) := mStep_d dX1_show_96
theorem vX1_show_99 : mStepO h k cX1_show bl Q Y (99, lv, st, σ) = (Y (101, lv, .int (7) :: st, σ)) := by rw [mStep_d dX1_show_99, ← mx_b7]; rfl
theorem vX1_show_101 : mStepO h k cX1_show bl Q Y (101, lv, st, σ) = (mBin Y 102 lv st σ (fun x y => x + y)) := mStep_d dX1_show_101
theorem vX1_show_102 : mStepO h k cX1_show bl Q Y (102, lv, st, σ) = (mStE h Y 103 lv st σ) := mStep_d dX1_show_102
theorem vX1_show_103 : mStepO h k cX1_show bl Q Y (103, lv, st, σ) = (mInc Y 106 lv st σ 3 (1)) := by rw [mStep_d dX1_show_103, ← mx_c1]; rfl
theorem vX1_show_106 : mStepO h k cX1_show bl Q Y (106, lv, st, σ) = (Y (23, lv, st, σ)) := (mStep_d dX1_show_106).trans (mJ_J jt_106_m83 jp_106_m83)
theorem vX1_show_109 : mStepO h k cX1_show bl Q Y (109, lv, st, σ) = (mLdA Y 110 lv st σ 0) := mStep_d dX1_show_109
theorem vX1_show_110 : mStepO h k cX1_show bl Q Y (110, lv, st, σ) = (mGet h k Y 113 lv st σ 105) := mStep_d dX1_show_110
theorem vX1_show_113 : mStepO h k cX1_show bl Q Y (113, lv, st, σ) = (mRetI bl Q st σ) := mStep_d dX1_show_113
theorem vX1_shown_0 : mStepO h k cX1_shown bl Q Y (0, lv, st, σ) = (mLdI Y 1 lv st σ 1) := mStep_d dX1_shown_0
theorem vX1_shown_1 : mStepO h k cX1_shown bl Q Y (1, lv, st, σ) = (mCaS k Y 4 lv st σ 70) := mStep_d dX1_shown_1
theorem vX1_shown_4 : mStepO h k cX1_shown bl Q Y (4, lv, st, σ) = (mN1 Y 9 7 lv st σ) := (mStep_d dX1_shown_4).trans (mIfN1_J jt_4_5 jp_4_5)
theorem vX1_shown_7 : mStepO h k cX1_shown bl Q Y (7, lv, st, σ) = (Y (8, lv, .int (-1) :: st, σ)) := by rw [mStep_d dX1_shown_7, ← mx_cm1]; rfl
theorem vX1_shown_8 : mStepO h k cX1_shown bl Q Y (8, lv, st, σ) = (mRetI bl Q st σ) := mStep_d dX1_shown_8
theorem vX1_shown_9 : mStepO h k cX1_shown bl Q Y (9, lv, st, σ) = (mLdI Y 10 lv st σ 3) := mStep_d dX1_shown_9
theorem vX1_shown_10 : mStepO h k cX1_shown bl Q Y (10, lv, st, σ) = (Y (11, lv, .int (2) :: st, σ)) := by rw [mStep_d dX1_shown_10, ← mx_c2]; rfl
theorem vX1_shown_11 : mStepO h k cX1_shown bl Q Y (11, lv, st, σ) = (mN2 Y 30 14 lv st σ) := (mStep_d dX1_shown_11).trans (mIfN2_J jt_11_19 jp_11_19)
theorem vX1_shown_14 : mStepO h k cX1_shown bl Q Y (14, lv, st, σ) = (mLdI Y 15 lv st σ 2) := mStep_d dX1_shown_14
theorem vX1_shown_15 : mStepO h k cX1_shown bl Q Y (15, lv, st, σ) = (Y (16, lv, .int (-1) :: st, σ)) := by rw [mStep_d dX1_shown_15, ← mx_cm1]; rfl
theorem vX1_shown_16 : mStepO h k cX1_shown bl Q Y (16, lv, st, σ) = (mN2 Y 28 19 lv st σ) := (mStep_d dX1_shown_16).trans (mIfN2_J jt_16_12 jp_16_12)
theorem vX1_shown_19 : mStepO h k cX1_shown bl Q Y (19, lv, st, σ) = (mLdA Y 20 lv st σ 0) := mStep_d dX1_shown_19
theorem vX1_shown_20 : mStepO h k cX1_shown bl Q Y (20, lv, st, σ) = (mGet h k Y 23 lv st σ 41) := mStep_d dX1_shown_20
theorem vX1_shown_23 : mStepO h k cX1_shown bl Q Y (23, lv, st, σ) = (mLdI Y 24 lv st σ 1) := mStep_d dX1_shown_23
theorem vX1_shown_24 : mStepO h k cX1_shown bl Q Y (24, lv, st, σ) = (mLdE h Y 25 lv st σ) := mStep_d dX1_shown_24
theorem vX1_shown_25 : mStepO h k cX1_shown bl Q Y (25, lv, st, σ) = (Y (29, lv, st, σ)) := (mStep_d dX1_shown_25).trans (mJ_J jt_25_4 jp_25_4)
theorem vX1_shown_28 : mStepO h k cX1_shown bl Q Y (28, lv, st, σ) = (Y (29, lv, .int (-1) :: st, σ)) := by rw [mStep_d dX1_shown_28, ← mx_cm1]; rfl
theorem vX1_shown_29 : mStepO h k cX1_shown bl Q Y (29, lv, st, σ) = (mRetI bl Q st σ) := mStep_d dX1_shown_29
theorem vX1_shown_30 : mStepO h k cX1_shown bl Q Y (30, lv, st, σ) = (mLdA Y 31 lv st σ 0) := mStep_d dX1_shown_30
theorem vX1_shown_31 : mStepO h k cX1_shown bl Q Y (31, lv, st, σ) = (mLdI Y 32 lv st σ 2) := mStep_d dX1_shown_31
theorem vX1_shown_32 : mStepO h k cX1_shown bl Q Y (32, lv, st, σ) = (mCaV k Y 35 lv st σ 66) := mStep_d dX1_shown_32
theorem vX1_shown_35 : mStepO h k cX1_shown bl Q Y (35, lv, st, σ) = (mN1 Y 40 38 lv st σ) := (mStep_d dX1_shown_35).trans (mIfN1_J jt_35_5 jp_35_5)
theorem vX1_shown_38 : mStepO h k cX1_shown bl Q Y (38, lv, st, σ) = (Y (39, lv, .int (-1) :: st, σ)) := by rw [mStep_d dX1_shown_38, ← mx_cm1]; rfl
theorem vX1_shown_39 : mStepO h k cX1_shown bl Q Y (39, lv, st, σ) = (mRetI bl Q st σ) := mStep_d dX1_shown_39
theorem vX1_shown_40 : mStepO h k cX1_shown bl Q Y (40, lv, st, σ) = (Y (42, lv, .int (12) :: st, σ)) := by rw [mStep_d dX1_shown_40, ← mx_b12]; rfl
theorem vX1_shown_42 : mStepO h k cX1_shown bl Q Y (42, lv, st, σ) = (mLdI Y 43 lv st σ 1) := mStep_d dX1_shown_42
theorem vX1_shown_43 : mStepO h k cX1_shown bl Q Y (43, lv, st, σ) = (mBin Y 44 lv st σ (fun x y => x * y)) := mStep_d dX1_shown_43
theorem vX1_shown_44 : mStepO h k cX1_shown bl Q Y (44, lv, st, σ) = (mLdI Y 45 lv st σ 2) := mStep_d dX1_shown_44
theorem vX1_shown_45 : mStepO h k cX1_shown bl Q Y (45, lv, st, σ) = (mBin Y 46 lv st σ (fun x y => x + y)) := mStep_d dX1_shown_45
theorem vX1_shown_46 : mStepO h k cX1_shown bl Q Y (46, lv, st, σ) = (mStI Y 48 lv st σ 4) := mStep_d dX1_shown_46
theorem vX1_shown_48 : mStepO h k cX1_shown bl Q Y (48, lv, st, σ) = (mLdI Y 49 lv st σ 3) := mStep_d dX1_shown_48
theorem vX1_shown_49 : mStepO h k cX1_shown bl Q Y (49, lv, st, σ) = (mN1 Y 62 52 lv st σ) := (mStep_d dX1_shown_49).trans (mIfN1_J jt_49_13 jp_49_13)
theorem vX1_shown_52 : mStepO h k cX1_shown bl Q Y (52, lv, st, σ) = (mLdA Y 53 lv st σ 0) := mStep_d dX1_shown_52
theorem vX1_shown_53 : mStepO h k cX1_shown bl Q Y (53, lv, st, σ) = (mGet h k Y 56 lv st σ 44) := mStep_d dX1_shown_53
theorem vX1_shown_56 : mStepO h k cX1_shown bl Q Y (56, lv, st, σ) = (mLdI Y 58 lv st σ 4) := mStep_d dX1_shown_56
theorem vX1_shown_58 : mStepO h k cX1_shown bl Q Y (58, lv, st, σ) = (mLdE h Y 59 lv st σ) := mStep_d dX1_shown_58
theorem vX1_shown_59 : mStepO h k cX1_shown bl Q Y (59, lv, st, σ) = (Y (101, lv, st, σ)) := (mStep_d dX1_shown_59).trans (mJ_J jt_59_42 jp_59_42)
theorem vX1_shown_62 : mStepO h k cX1_shown bl Q Y (62, lv, st, σ) = (mLdI Y 63 lv st σ 3) := mStep_d dX1_shown_62
theorem vX1_shown_63 : mStepO h k cX1_shown bl Q Y (63, lv, st, σ) = (Y (64, lv, .int (1) :: st, σ)) := by rw [mStep_d dX1_shown_63, ← mx_c1]; rfl
theorem vX1_shown_64 : mStepO h k cX1_shown bl Q Y (64, lv, st, σ) = (mN2 Y 100 67 lv st σ) := (mStep_d dX1_shown_64).trans (mIfN2_J jt_64_36 jp_64_36)
theorem vX1_shown_67 : mStepO h k cX1_shown bl Q Y (67, lv, st, σ) = (mLdA Y 68 lv st σ 0) := mStep_d dX1_shown_67
theorem vX1_shown_68 : mStepO h k cX1_shown bl Q Y (68, lv, st, σ) = (mGet h k Y 71 lv st σ 60) := mStep_d dX1_shown_68
theorem vX1_shown_71 : mStepO h k cX1_shown bl Q Y (71, lv, st, σ) = (mLdA Y 72 lv st σ 0) := mStep_d dX1_shown_71
theorem vX1_shown_72 : mStepO h k cX1_shown bl Q Y (72, lv, st, σ) = (mGet h k Y 75 lv st σ 47) := mStep_d dX1_shown_72
theorem vX1_shown_75 : mStepO h k cX1_shown bl Q Y (75, lv, st, σ) = (mLdI Y 77 lv st σ 4) := mStep_d dX1_shown_75
theorem vX1_shown_77 : mStepO h k cX1_shown bl Q Y (77, lv, st, σ) = (mLdE h Y 78 lv st σ) := mStep_d dX1_shown_77
theorem vX1_shown_78 : mStepO h k cX1_shown bl Q Y (78, lv, st, σ) = (mJ2 Y 96 81 lv st σ (fun x y => y ≤ x)) := (mStep_d dX1_shown_78).trans (mIf2_J jt_78_18 jp_78_18)
theorem vX1_shown_81 : mStepO h k cX1_shown bl Q Y (81, lv, st, σ) = (mLdA Y 82 lv st σ 0) := mStep_d dX1_shown_81
theorem vX1_shown_82 : mStepO h k cX1_shown bl Q Y (82, lv, st, σ) = (mGet h k Y 85 lv st σ 47) := mStep_d dX1_shown_82
theorem vX1_shown_85 : mStepO h k cX1_shown bl Q Y (85, lv, st, σ) = (mLdI Y 87 lv st σ 4) := mStep_d dX1_shown_85
theorem vX1_shown_87 : mStepO h k cX1_shown bl Q Y (87, lv, st, σ) = (mLdE h Y 88 lv st σ) := mStep_d dX1_shown_87
theorem vX1_shown_88 : mStepO h k cX1_shown bl Q Y (88, lv, st, σ) = (mLdA Y 89 lv st σ 0) := mStep_d dX1_shown_88
theorem vX1_shown_89 : mStepO h k cX1_shown bl Q Y (89, lv, st, σ) = (mGet h k Y 92 lv st σ 60) := mStep_d dX1_shown_89
theorem vX1_shown_92 : mStepO h k cX1_shown bl Q Y (92, lv, st, σ) = (mBin Y 93 lv st σ (fun x y => x - y)) := mStep_d dX1_shown_92
theorem vX1_shown_93 : mStepO h k cX1_shown bl Q Y (93, lv, st, σ) = (Y (101, lv, st, σ)) := (mStep_d dX1_shown_93).trans (mJ_J jt_93_8 jp_93_8)
theorem vX1_shown_96 : mStepO h k cX1_shown bl Q Y (96, lv, st, σ) = (Y (97, lv, .int (0) :: st, σ)) := by rw [mStep_d dX1_shown_96, ← mx_c0]; rfl
theorem vX1_shown_97 : mStepO h k cX1_shown bl Q Y (97, lv, st, σ) = (Y (101, lv, st, σ)) := (mStep_d dX1_shown_97).trans (mJ_J jt_97_4 jp_97_4)
theorem vX1_shown_100 : mStepO h k cX1_shown bl Q Y (100, lv, st, σ) = (Y (101, lv, .int (-1) :: st, σ)) := by rw [mStep_d dX1_shown_100, ← mx_cm1]; rfl
theorem vX1_shown_101 : mStepO h k cX1_shown bl Q Y (101, lv, st, σ) = (mRetI bl Q st σ) := mStep_d dX1_shown_101
theorem vX1_why_0 : mStepO h k cX1_why bl Q Y (0, lv, st, σ) = (mLdI Y 1 lv st σ 1) := mStep_d dX1_why_0
theorem vX1_why_1 : mStepO h k cX1_why bl Q Y (1, lv, st, σ) = (mCaS k Y 4 lv st σ 70) := mStep_d dX1_why_1
theorem vX1_why_4 : mStepO h k cX1_why bl Q Y (4, lv, st, σ) = (mJ1 Y 24 7 lv st σ (fun x => x = 0)) := (mStep_d dX1_why_4).trans (mIf1_J jt_4_20 jp_4_20)
theorem vX1_why_7 : mStepO h k cX1_why bl Q Y (7, lv, st, σ) = (mLdA Y 8 lv st σ 0) := mStep_d dX1_why_7
theorem vX1_why_8 : mStepO h k cX1_why bl Q Y (8, lv, st, σ) = (mLdI Y 9 lv st σ 2) := mStep_d dX1_why_8
theorem vX1_why_9 : mStepO h k cX1_why bl Q Y (9, lv, st, σ) = (mCaV k Y 12 lv st σ 66) := mStep_d dX1_why_9
theorem vX1_why_12 : mStepO h k cX1_why bl Q Y (12, lv, st, σ) = (mJ1 Y 24 15 lv st σ (fun x => x = 0)) := (mStep_d dX1_why_12).trans (mIf1_J jt_12_12 jp_12_12)
theorem vX1_why_15 : mStepO h k cX1_why bl Q Y (15, lv, st, σ) = (mLdI Y 16 lv st σ 3) := mStep_d dX1_why_15
theorem vX1_why_16 : mStepO h k cX1_why bl Q Y (16, lv, st, σ) = (Y (17, lv, .int (0) :: st, σ)) := by rw [mStep_d dX1_why_16, ← mx_c0]; rfl
theorem vX1_why_17 : mStepO h k cX1_why bl Q Y (17, lv, st, σ) = (Y (18, lv, .int (2) :: st, σ)) := by rw [mStep_d dX1_why_17, ← mx_c2]; rfl
theorem vX1_why_18 : mStepO h k cX1_why bl Q Y (18, lv, st, σ) = (mCaS k Y 21 lv st σ 56) := mStep_d dX1_why_18
theorem vX1_why_21 : mStepO h k cX1_why bl Q Y (21, lv, st, σ) = (mN1 Y 27 24 lv st σ) := (mStep_d dX1_why_21).trans (mIfN1_J jt_21_6 jp_21_6)
theorem vX1_why_24 : mStepO h k cX1_why bl Q Y (24, lv, st, σ) = (mKon k Y 26 lv st σ 94) := mStep_d dX1_why_24
theorem vX1_why_26 : mStepO h k cX1_why bl Q Y (26, lv, st, σ) = (mRetI bl Q st σ) := mStep_d dX1_why_26
theorem vX1_why_27 : mStepO h k cX1_why bl Q Y (27, lv, st, σ) = (mLdA Y 28 lv st σ 0) := mStep_d dX1_why_27
theorem vX1_why_28 : mStepO h k cX1_why bl Q Y (28, lv, st, σ) = (mLdI Y 29 lv st σ 1) := mStep_d dX1_why_28
theorem vX1_why_29 : mStepO h k cX1_why bl Q Y (29, lv, st, σ) = (mCaV k Y 32 lv st σ 95) := mStep_d dX1_why_29
theorem vX1_why_32 : mStepO h k cX1_why bl Q Y (32, lv, st, σ) = (Y (33, lv, .int (1) :: st, σ)) := by rw [mStep_d dX1_why_32, ← mx_c1]; rfl
theorem vX1_why_33 : mStepO h k cX1_why bl Q Y (33, lv, st, σ) = (mLdI Y 34 lv st σ 2) := mStep_d dX1_why_33
theorem vX1_why_34 : mStepO h k cX1_why bl Q Y (34, lv, st, σ) = (mBin Y 35 lv st σ (fun x y => x <<< (y &&& 31))) := mStep_d dX1_why_34
theorem vX1_why_35 : mStepO h k cX1_why bl Q Y (35, lv, st, σ) = (Y (36, lv, .int (-1) :: st, σ)) := by rw [mStep_d dX1_why_35, ← mx_cm1]; rfl
theorem vX1_why_36 : mStepO h k cX1_why bl Q Y (36, lv, st, σ) = (mBin Y 37 lv st σ (fun x y => x ^^^ y)) := mStep_d dX1_why_36
theorem vX1_why_37 : mStepO h k cX1_why bl Q Y (37, lv, st, σ) = (mBin Y 38 lv st σ (fun x y => x &&& y)) := mStep_d dX1_why_37
theorem vX1_why_38 : mStepO h k cX1_why bl Q Y (38, lv, st, σ) = (mStI Y 40 lv st σ 4) := mStep_d dX1_why_38
theorem vX1_why_40 : mStepO h k cX1_why bl Q Y (40, lv, st, σ) = (Y (41, lv, .int (-1) :: st, σ)) := by rw [mStep_d dX1_why_40, ← mx_cm1]; rfl
theorem vX1_why_41 : mStepO h k cX1_why bl Q Y (41, lv, st, σ) = (mStI Y 43 lv st σ 5) := mStep_d dX1_why_41
theorem vX1_why_43 : mStepO h k cX1_why bl Q Y (43, lv, st, σ) = (Y (44, lv, .int (0) :: st, σ)) := by rw [mStep_d dX1_why_43, ← mx_c0]; rfl
theorem vX1_why_44 : mStepO h k cX1_why bl Q Y (44, lv, st, σ) = (mStI Y 46 lv st σ 6) := mStep_d dX1_why_44
theorem vX1_why_46 : mStepO h k cX1_why bl Q Y (46, lv, st, σ) = (mLdI Y 48 lv st σ 6) := mStep_d dX1_why_46
theorem vX1_why_48 : mStepO h k cX1_why bl Q Y (48, lv, st, σ) = (mLdA Y 49 lv st σ 0) := mStep_d dX1_why_48
theorem vX1_why_49 : mStepO h k cX1_why bl Q Y (49, lv, st, σ) = (mGet h k Y 52 lv st σ 53) := mStep_d dX1_why_49
theorem vX1_why_52 : mStepO h k cX1_why bl Q Y (52, lv, st, σ) = (mJ2 Y 99 55 lv st σ (fun x y => y ≤ x)) := (mStep_d dX1_why_52).trans (mIf2_J jt_52_47 jp_52_47)
theorem vX1_why_55 : mStepO h k cX1_why bl Q Y (55, lv, st, σ) = (mLdI Y 57 lv st σ 4) := mStep_d dX1_why_55
theorem vX1_why_57 : mStepO h k cX1_why bl Q Y (57, lv, st, σ) = (mLdI Y 59 lv st σ 6) := mStep_d dX1_why_57
theorem vX1_why_59 : mStepO h k cX1_why bl Q Y (59, lv, st, σ) = (mBin Y 60 lv st σ (fun x y => x >>> (y &&& 31))) := mStep_d dX1_why_59
theorem vX1_why_60 : mStepO h k cX1_why bl Q Y (60, lv, st, σ) = (Y (61, lv, .int (1) :: st, σ)) := by rw [mStep_d dX1_why_60, ← mx_c1]; rfl
theorem vX1_why_61 : mStepO h k cX1_why bl Q Y (61, lv, st, σ) = (mBin Y 62 lv st σ (fun x y => x &&& y)) := mStep_d dX1_why_61
theorem vX1_why_62 : mStepO h k cX1_why bl Q Y (62, lv, st, σ) = (Y (63, lv, .int (1) :: st, σ)) := by rw [mStep_d dX1_why_62, ← mx_c1]; rfl
theorem vX1_why_63 : mStepO h k cX1_why bl Q Y (63, lv, st, σ) = (mN2 Y 93 66 lv st σ) := (mStep_d dX1_why_63).trans (mIfN2_J jt_63_30 jp_63_30)
theorem vX1_why_66 : mStepO h k cX1_why bl Q Y (66, lv, st, σ) = (mLdI Y 68 lv st σ 5) := mStep_d dX1_why_66
theorem vX1_why_68 : mStepO h k cX1_why bl Q Y (68, lv, st, σ) = (Y (69, lv, .int (-1) :: st, σ)) := by rw [mStep_d dX1_why_68, ← mx_cm1]; rfl
theorem vX1_why_69 : mStepO h k cX1_why bl Q Y (69, lv, st, σ) = (mJ2 Y 89 72 lv st σ (fun x y => x = y)) := (mStep_d dX1_why_69).trans (mIf2_J jt_69_20 jp_69_20)
theorem vX1_why_72 : mStepO h k cX1_why bl Q Y (72, lv, st, σ) = (mLdA Y 73 lv st σ 0) := mStep_d dX1_why_72
theorem vX1_why_73 : mStepO h k cX1_why bl Q Y (73, lv, st, σ) = (mLdI Y 74 lv st σ 2) := mStep_d dX1_why_73
theorem vX1_why_74 : mStepO h k cX1_why bl Q Y (74, lv, st, σ) = (mLdI Y 76 lv st σ 6) := mStep_d dX1_why_74
theorem vX1_why_76 : mStepO h k cX1_why bl Q Y (76, lv, st, σ) = (mCaV k Y 79 lv st σ 91) := mStep_d dX1_why_76
theorem vX1_why_79 : mStepO h k cX1_why bl Q Y (79, lv, st, σ) = (mLdA Y 80 lv st σ 0) := mStep_d dX1_why_79
theorem vX1_why_80 : mStepO h k cX1_why bl Q Y (80, lv, st, σ) = (mLdI Y 81 lv st σ 2) := mStep_d dX1_why_80
theorem vX1_why_81 : mStepO h k cX1_why bl Q Y (81, lv, st, σ) = (mLdI Y 83 lv st σ 5) := mStep_d dX1_why_81
theorem vX1_why_83 : mStepO h k cX1_why bl Q Y (83, lv, st, σ) = (mCaV k Y 86 lv st σ 91) := mStep_d dX1_why_83
theorem vX1_why_86 : mStepO h k cX1_why bl Q Y (86, lv, st, σ) = (mJ2 Y 93 89 lv st σ (fun x y => x ≤ y)) := (mStep_d dX1_why_86).trans (mIf2_J jt_86_7 jp_86_7)
theorem vX1_why_89 : mStepO h k cX1_why bl Q Y (89, lv, st, σ) = (mLdI Y 91 lv st σ 6) := mStep_d dX1_why_89
theorem vX1_why_91 : mStepO h k cX1_why bl Q Y (91, lv, st, σ) = (mStI Y 93 lv st σ 5) := mStep_d dX1_why_91
theorem vX1_why_93 : mStepO h k cX1_why bl Q Y (93, lv, st, σ) = (mInc Y 96 lv st σ 6 (1)) := by rw [mStep_d dX1_why_93, ← mx_c1]; rfl
theorem vX1_why_96 : mStepO h k cX1_why bl Q Y (96, lv, st, σ) = (Y (46, lv, st, σ)) := (mStep_d dX1_why_96).trans (mJ_J jt_96_m50 jp_96_m50)
theorem vX1_why_99 : mStepO h k cX1_why bl Q Y (99, lv, st, σ) = (mLdI Y 101 lv st σ 5) := mStep_d dX1_why_99
theorem vX1_why_101 : mStepO h k cX1_why bl Q Y (101, lv, st, σ) = (Y (102, lv, .int (-1) :: st, σ)) := by rw [mStep_d dX1_why_101, ← mx_cm1]; rfl
theorem vX1_why_102 : mStepO h k cX1_why bl Q Y (102, lv, st, σ) = (mN2 Y 108 105 lv st σ) := (mStep_d dX1_why_102).trans (mIfN2_J jt_102_6 jp_102_6)
theorem vX1_why_105 : mStepO h k cX1_why bl Q Y (105, lv, st, σ) = (mKon k Y 107 lv st σ 94) := mStep_d dX1_why_105
theorem vX1_why_107 : mStepO h k cX1_why bl Q Y (107, lv, st, σ) = (mRetI bl Q st σ) := mStep_d dX1_why_107
theorem vX1_why_108 : mStepO h k cX1_why bl Q Y (108, lv, st, σ) = (mLdI Y 109 lv st σ 3) := mStep_d dX1_why_108
theorem vX1_why_109 : mStepO h k cX1_why bl Q Y (109, lv, st, σ) = (mN1 Y 117 112 lv st σ) := (mStep_d dX1_why_109).trans (mIfN1_J jt_109_8 jp_109_8)
theorem vX1_why_112 : mStepO h k cX1_why bl Q Y (112, lv, st, σ) = (mLdI Y 114 lv st σ 5) := mStep_d dX1_why_112
theorem vX1_why_114 : mStepO h k cX1_why bl Q Y (114, lv, st, σ) = (Y (139, lv, st, σ)) := (mStep_d dX1_why_114).trans (mJ_J jt_114_25 jp_114_25)
theorem vX1_why_117 : mStepO h k cX1_why bl Q Y (117, lv, st, σ) = (mLdI Y 118 lv st σ 3) := mStep_d dX1_why_117
theorem vX1_why_118 : mStepO h k cX1_why bl Q Y (118, lv, st, σ) = (Y (119, lv, .int (1) :: st, σ)) := by rw [mStep_d dX1_why_118, ← mx_c1]; rfl
theorem vX1_why_119 : mStepO h k cX1_why bl Q Y (119, lv, st, σ) = (mN2 Y 132 122 lv st σ) := (mStep_d dX1_why_119).trans (mIfN2_J jt_119_13 jp_119_13)
theorem vX1_why_122 : mStepO h k cX1_why bl Q Y (122, lv, st, σ) = (mLdA Y 123 lv st σ 0) := mStep_d dX1_why_122
theorem vX1_why_123 : mStepO h k cX1_why bl Q Y (123, lv, st, σ) = (mLdI Y 124 lv st σ 2) := mStep_d dX1_why_123
theorem vX1_why_124 : mStepO h k cX1_why bl Q Y (124, lv, st, σ) = (mLdI Y 126 lv st σ 5) := mStep_d dX1_why_124
theorem vX1_why_126 : mStepO h k cX1_why bl Q Y (126, lv, st, σ) = (mCaV k Y 129 lv st σ 91) := mStep_d dX1_why_126
theorem vX1_why_129 : mStepO h k cX1_why bl Q Y (129, lv, st, σ) = (Y (139, lv, st, σ)) := (mStep_d dX1_why_129).trans (mJ_J jt_129_10 jp_129_10)
theorem vX1_why_132 : mStepO h k cX1_why bl Q Y (132, lv, st, σ) = (mLdA Y 133 lv st σ 0) := mStep_d dX1_why_132
theorem vX1_why_133 : mStepO h k cX1_why bl Q Y (133, lv, st, σ) = (mLdI Y 134 lv st σ 2) := mStep_d dX1_why_133
theorem vX1_why_134 : mStepO h k cX1_why bl Q Y (134, lv, st, σ) = (mLdI Y 136 lv st σ 5) := mStep_d dX1_why_134
theorem vX1_why_136 : mStepO h k cX1_why bl Q Y (136, lv, st, σ) = (mCaV k Y 139 lv st σ 84) := mStep_d dX1_why_136
theorem vX1_why_139 : mStepO h k cX1_why bl Q Y (139, lv, st, σ) = (mRetI bl Q st σ) := mStep_d dX1_why_139
end MROWS
