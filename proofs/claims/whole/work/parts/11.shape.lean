def kindX0 : Nat → Option Nat := fun k => match k with
  | 1 => some 1
  | 4 => some 2
  | 5 => some 3
  | 6 => some 4
  | 8 => some 5
  | 9 => some 6
  | 10 => some 7
  | 11 => some 8
  | 12 => some 9
  | 13 => some 10
  | 14 => some 11
  | _ => none
def lenX0 : Nat → Nat := fun k => match k with
  | 1 => 4
  | 2 => 12
  | 3 => 4
  | 4 => 12
  | 5 => 60
  | 6 => 60
  | 7 => 60
  | 8 => 8
  | 9 => 8
  | 10 => 8
  | 11 => 12
  | _ => 12
def outX0 : Nat → Option Nat := fun k => match k with
  | 9 => some 12
  | 10 => some 20
  | _ => none
def hX0 : mH := (kindX0, 27, lenX0, outX0)
def fldX0 : Nat → Option Nat := fun k => match k with
  | 18 => some 1
  | 21 => some 4
  | 24 => some 5
  | 27 => some 6
  | 30 => some 8
  | 33 => some 9
  | 36 => some 10
  | 39 => some 11
  | 44 => some 12
  | 47 => some 13
  | 50 => some 14
  | 53 => some 2
  | 57 => some 0
  | 60 => some 3
  | 83 => some 7
  | _ => none
def konX0 : Nat → Option Int32 := fun k => match k with
  | 117 => some (-1000001)
  | _ => none
def kX0 (cal : List (Nat × mC)) : mK := (fldX0, konX0, cal)
theorem fX0_18 (cal : List (Nat × mC)) : (kX0 cal).1 18 = some 1 := rfl
theorem fX0_21 (cal : List (Nat × mC)) : (kX0 cal).1 21 = some 4 := rfl
theorem fX0_24 (cal : List (Nat × mC)) : (kX0 cal).1 24 = some 5 := rfl
theorem fX0_27 (cal : List (Nat × mC)) : (kX0 cal).1 27 = some 6 := rfl
theorem fX0_30 (cal : List (Nat × mC)) : (kX0 cal).1 30 = some 8 := rfl
theorem fX0_33 (cal : List (Nat × mC)) : (kX0 cal).1 33 = some 9 := rfl
theorem fX0_36 (cal : List (Nat × mC)) : (kX0 cal).1 36 = some 10 := rfl
theorem fX0_39 (cal : List (Nat × mC)) : (kX0 cal).1 39 = some 11 := rfl
theorem fX0_44 (cal : List (Nat × mC)) : (kX0 cal).1 44 = some 12 := rfl
theorem fX0_47 (cal : List (Nat × mC)) : (kX0 cal).1 47 = some 13 := rfl
theorem fX0_50 (cal : List (Nat × mC)) : (kX0 cal).1 50 = some 14 := rfl
theorem fX0_53 (cal : List (Nat × mC)) : (kX0 cal).1 53 = some 2 := rfl
theorem fX0_57 (cal : List (Nat × mC)) : (kX0 cal).1 57 = some 0 := rfl
theorem fX0_60 (cal : List (Nat × mC)) : (kX0 cal).1 60 = some 3 := rfl
theorem fX0_83 (cal : List (Nat × mC)) : (kX0 cal).1 83 = some 7 := rfl
theorem oX0_117 (cal : List (Nat × mC)) : (kX0 cal).2.1 117 = some (-1000001) := rfl
theorem cX0_c (cal : List (Nat × mC)) : (kX0 cal).2.2 = cal := rfl
theorem vX0_0 (σ : mS) : mFv hX0 σ 0 = .int (σ.1 0) := rfl
theorem nX0_0 : hX0.1 0 = none := rfl
theorem vX0_1 (σ : mS) : mFv hX0 σ 1 = .ref 1 := rfl
theorem vX0_2 (σ : mS) : mFv hX0 σ 2 = .int (σ.1 2) := rfl
theorem nX0_2 : hX0.1 2 = none := rfl
theorem vX0_3 (σ : mS) : mFv hX0 σ 3 = .int (σ.1 3) := rfl
theorem nX0_3 : hX0.1 3 = none := rfl
theorem vX0_4 (σ : mS) : mFv hX0 σ 4 = .ref 2 := rfl
theorem vX0_5 (σ : mS) : mFv hX0 σ 5 = .ref 3 := rfl
theorem vX0_6 (σ : mS) : mFv hX0 σ 6 = .ref 4 := rfl
theorem vX0_7 (σ : mS) : mFv hX0 σ 7 = .int (σ.1 7) := rfl
theorem nX0_7 : hX0.1 7 = none := rfl
theorem vX0_8 (σ : mS) : mFv hX0 σ 8 = .ref 5 := rfl
theorem vX0_9 (σ : mS) : mFv hX0 σ 9 = .ref 6 := rfl
theorem vX0_10 (σ : mS) : mFv hX0 σ 10 = .ref 7 := rfl
theorem vX0_11 (σ : mS) : mFv hX0 σ 11 = .ref 8 := rfl
theorem vX0_12 (σ : mS) : mFv hX0 σ 12 = .ref 9 := rfl
theorem vX0_13 (σ : mS) : mFv hX0 σ 13 = .ref 10 := rfl
theorem vX0_14 (σ : mS) : mFv hX0 σ 14 = .ref 11 := rfl
theorem lX0_1 : hX0.2.2.1 1 = 4 := rfl
theorem aX0_1 : mIsA hX0 1 := ⟨by decide, rfl⟩
theorem lX0_2 : hX0.2.2.1 2 = 12 := rfl
theorem aX0_2 : mIsA hX0 2 := ⟨by decide, rfl⟩
theorem lX0_3 : hX0.2.2.1 3 = 4 := rfl
theorem aX0_3 : mIsA hX0 3 := ⟨by decide, rfl⟩
theorem lX0_4 : hX0.2.2.1 4 = 12 := rfl
theorem aX0_4 : mIsA hX0 4 := ⟨by decide, rfl⟩
theorem lX0_5 : hX0.2.2.1 5 = 60 := rfl
theorem aX0_5 : mIsA hX0 5 := ⟨by decide, rfl⟩
theorem lX0_6 : hX0.2.2.1 6 = 60 := rfl
theorem aX0_6 : mIsA hX0 6 := ⟨by decide, rfl⟩
theorem lX0_7 : hX0.2.2.1 7 = 60 := rfl
theorem aX0_7 : mIsA hX0 7 := ⟨by decide, rfl⟩
theorem lX0_8 : hX0.2.2.1 8 = 8 := rfl
theorem aX0_8 : mIsA hX0 8 := ⟨by decide, rfl⟩
theorem lX0_9 : hX0.2.2.1 9 = 8 := rfl
theorem rX0_9 : hX0.2.2.2 9 = some 12 := rfl
theorem lX0_10 : hX0.2.2.1 10 = 8 := rfl
theorem rX0_10 : hX0.2.2.2 10 = some 20 := rfl
theorem lX0_11 : hX0.2.2.1 11 = 12 := rfl
theorem aX0_11 : mIsA hX0 11 := ⟨by decide, rfl⟩
theorem gX0_n : hX0.2.1 = 27 := rfl
def kindX1 : Nat → Option Nat := fun k => match k with
  | 8 => some 1
  | 9 => some 2
  | 10 => some 3
  | 11 => some 4
  | 12 => some 5
  | 13 => some 6
  | 14 => some 7
  | 15 => some 8
  | 16 => some 9
  | 17 => some 10
  | _ => none
def lenX1 : Nat → Nat := fun k => match k with
  | 1 => 12
  | 2 => 12
  | 3 => 12
  | 4 => 60
  | 5 => 60
  | 6 => 60
  | 7 => 8
  | 8 => 96
  | 9 => 96
  | 10 => 12
  | _ => 0
def outX1 : Nat → Option Nat := fun k => match k with
  | _ => none
def hX1 : mH := (kindX1, 10, lenX1, outX1)
def fldX1 : Nat → Option Nat := fun k => match k with
  | 7 => some 3
  | 13 => some 4
  | 16 => some 5
  | 19 => some 6
  | 22 => some 8
  | 26 => some 9
  | 29 => some 10
  | 32 => some 11
  | 35 => some 12
  | 38 => some 13
  | 41 => some 14
  | 44 => some 15
  | 47 => some 16
  | 50 => some 17
  | 53 => some 0
  | 60 => some 1
  | 63 => some 7
  | 73 => some 2
  | 105 => some 18
  | 108 => some 19
  | _ => none
def konX1 : Nat → Option Int32 := fun k => match k with
  | 94 => some (-1000001)
  | _ => none
def kX1 (cal : List (Nat × mC)) : mK := (fldX1, konX1, cal)
theorem fX1_7 (cal : List (Nat × mC)) : (kX1 cal).1 7 = some 3 := rfl
theorem fX1_13 (cal : List (Nat × mC)) : (kX1 cal).1 13 = some 4 := rfl
theorem fX1_16 (cal : List (Nat × mC)) : (kX1 cal).1 16 = some 5 := rfl
theorem fX1_19 (cal : List (Nat × mC)) : (kX1 cal).1 19 = some 6 := rfl
theorem fX1_22 (cal : List (Nat × mC)) : (kX1 cal).1 22 = some 8 := rfl
theorem fX1_26 (cal : List (Nat × mC)) : (kX1 cal).1 26 = some 9 := rfl
theorem fX1_29 (cal : List (Nat × mC)) : (kX1 cal).1 29 = some 10 := rfl
theorem fX1_32 (cal : List (Nat × mC)) : (kX1 cal).1 32 = some 11 := rfl
theorem fX1_35 (cal : List (Nat × mC)) : (kX1 cal).1 35 = some 12 := rfl
theorem fX1_38 (cal : List (Nat × mC)) : (kX1 cal).1 38 = some 13 := rfl
theorem fX1_41 (cal : List (Nat × mC)) : (kX1 cal).1 41 = some 14 := rfl
theorem fX1_44 (cal : List (Nat × mC)) : (kX1 cal).1 44 = some 15 := rfl
theorem fX1_47 (cal : List (Nat × mC)) : (kX1 cal).1 47 = some 16 := rfl
theorem fX1_50 (cal : List (Nat × mC)) : (kX1 cal).1 50 = some 17 := rfl
theorem fX1_53 (cal : List (Nat × mC)) : (kX1 cal).1 53 = some 0 := rfl
theorem fX1_60 (cal : List (Nat × mC)) : (kX1 cal).1 60 = some 1 := rfl
theorem fX1_63 (cal : List (Nat × mC)) : (kX1 cal).1 63 = some 7 := rfl
theorem fX1_73 (cal : List (Nat × mC)) : (kX1 cal).1 73 = some 2 := rfl
theorem fX1_105 (cal : List (Nat × mC)) : (kX1 cal).1 105 = some 18 := rfl
theorem fX1_108 (cal : List (Nat × mC)) : (kX1 cal).1 108 = some 19 := rfl
theorem oX1_94 (cal : List (Nat × mC)) : (kX1 cal).2.1 94 = some (-1000001) := rfl
theorem cX1_c (cal : List (Nat × mC)) : (kX1 cal).2.2 = cal := rfl
theorem vX1_0 (σ : mS) : mFv hX1 σ 0 = .int (σ.1 0) := rfl
theorem nX1_0 : hX1.1 0 = none := rfl
theorem vX1_1 (σ : mS) : mFv hX1 σ 1 = .int (σ.1 1) := rfl
theorem nX1_1 : hX1.1 1 = none := rfl
theorem vX1_2 (σ : mS) : mFv hX1 σ 2 = .int (σ.1 2) := rfl
theorem nX1_2 : hX1.1 2 = none := rfl
theorem vX1_3 (σ : mS) : mFv hX1 σ 3 = .int (σ.1 3) := rfl
theorem nX1_3 : hX1.1 3 = none := rfl
theorem vX1_4 (σ : mS) : mFv hX1 σ 4 = .int (σ.1 4) := rfl
theorem nX1_4 : hX1.1 4 = none := rfl
theorem vX1_5 (σ : mS) : mFv hX1 σ 5 = .int (σ.1 5) := rfl
theorem nX1_5 : hX1.1 5 = none := rfl
theorem vX1_6 (σ : mS) : mFv hX1 σ 6 = .int (σ.1 6) := rfl
theorem nX1_6 : hX1.1 6 = none := rfl
theorem vX1_7 (σ : mS) : mFv hX1 σ 7 = .int (σ.1 7) := rfl
theorem nX1_7 : hX1.1 7 = none := rfl
theorem vX1_8 (σ : mS) : mFv hX1 σ 8 = .ref 1 := rfl
theorem vX1_9 (σ : mS) : mFv hX1 σ 9 = .ref 2 := rfl
theorem vX1_10 (σ : mS) : mFv hX1 σ 10 = .ref 3 := rfl
theorem vX1_11 (σ : mS) : mFv hX1 σ 11 = .ref 4 := rfl
theorem vX1_12 (σ : mS) : mFv hX1 σ 12 = .ref 5 := rfl
theorem vX1_13 (σ : mS) : mFv hX1 σ 13 = .ref 6 := rfl
theorem vX1_14 (σ : mS) : mFv hX1 σ 14 = .ref 7 := rfl
theorem vX1_15 (σ : mS) : mFv hX1 σ 15 = .ref 8 := rfl
theorem vX1_16 (σ : mS) : mFv hX1 σ 16 = .ref 9 := rfl
theorem vX1_17 (σ : mS) : mFv hX1 σ 17 = .ref 10 := rfl
theorem vX1_18 (σ : mS) : mFv hX1 σ 18 = .int (σ.1 18) := rfl
theorem nX1_18 : hX1.1 18 = none := rfl
theorem vX1_19 (σ : mS) : mFv hX1 σ 19 = .int (σ.1 19) := rfl
theorem nX1_19 : hX1.1 19 = none := rfl
theorem lX1_1 : hX1.2.2.1 1 = 12 := rfl
theorem aX1_1 : mIsA hX1 1 := ⟨by decide, rfl⟩
theorem lX1_2 : hX1.2.2.1 2 = 12 := rfl
theorem aX1_2 : mIsA hX1 2 := ⟨by decide, rfl⟩
theorem lX1_3 : hX1.2.2.1 3 = 12 := rfl
theorem aX1_3 : mIsA hX1 3 := ⟨by decide, rfl⟩
theorem lX1_4 : hX1.2.2.1 4 = 60 := rfl
theorem aX1_4 : mIsA hX1 4 := ⟨by decide, rfl⟩
theorem lX1_5 : hX1.2.2.1 5 = 60 := rfl
theorem aX1_5 : mIsA hX1 5 := ⟨by decide, rfl⟩
theorem lX1_6 : hX1.2.2.1 6 = 60 := rfl
theorem aX1_6 : mIsA hX1 6 := ⟨by decide, rfl⟩
theorem lX1_7 : hX1.2.2.1 7 = 8 := rfl
theorem aX1_7 : mIsA hX1 7 := ⟨by decide, rfl⟩
theorem lX1_8 : hX1.2.2.1 8 = 96 := rfl
theorem aX1_8 : mIsA hX1 8 := ⟨by decide, rfl⟩
theorem lX1_9 : hX1.2.2.1 9 = 96 := rfl
theorem aX1_9 : mIsA hX1 9 := ⟨by decide, rfl⟩
theorem lX1_10 : hX1.2.2.1 10 = 12 := rfl
theorem aX1_10 : mIsA hX1 10 := ⟨by decide, rfl⟩
theorem gX1_n : hX1.2.1 = 10 := rfl
abbrev vwC : List vw_C := [(RX0, TX0, 15), (RX1, TX1, 20)]
theorem aX0_row {i : Nat} (h : 12 ≤ i ∧ i ≤ 27) : mIsA hX0 i := by
  refine ⟨⟨by omega, h.2⟩, ?_⟩
  show outX0 i = none
  unfold outX0
  split
  · omega
  · omega
  · rfl
theorem lX0_row {i : Nat} (h : 12 ≤ i ∧ i ≤ 27) : hX0.2.2.1 i = 12 := by
  show lenX0 i = 12
  unfold lenX0
  split <;> first | omega | rfl
set_option maxRecDepth 100000 in
theorem usX0 : ∀ w ∈ u_ws RX0 TX0 15, w ∈ gW := by decide +kernel
set_option maxRecDepth 100000 in
theorem fwX0_18 : Cond.fieldLink RX0 18 RX0 (TX0 1).2.1 (TX0 1).2.2.1 ∈ gW := by decide +kernel
set_option maxRecDepth 100000 in
theorem fwX0_21 : Cond.fieldLink RX0 21 RX0 (TX0 4).2.1 (TX0 4).2.2.1 ∈ gW := by decide +kernel
set_option maxRecDepth 100000 in
theorem fwX0_24 : Cond.fieldLink RX0 24 RX0 (TX0 5).2.1 (TX0 5).2.2.1 ∈ gW := by decide +kernel
set_option maxRecDepth 100000 in
theorem fwX0_27 : Cond.fieldLink RX0 27 RX0 (TX0 6).2.1 (TX0 6).2.2.1 ∈ gW := by decide +kernel
set_option maxRecDepth 100000 in
theorem fwX0_30 : Cond.fieldLink RX0 30 RX0 (TX0 8).2.1 (TX0 8).2.2.1 ∈ gW := by decide +kernel
set_option maxRecDepth 100000 in
theorem fwX0_33 : Cond.fieldLink RX0 33 RX0 (TX0 9).2.1 (TX0 9).2.2.1 ∈ gW := by decide +kernel
set_option maxRecDepth 100000 in
theorem fwX0_36 : Cond.fieldLink RX0 36 RX0 (TX0 10).2.1 (TX0 10).2.2.1 ∈ gW := by decide +kernel
set_option maxRecDepth 100000 in
theorem fwX0_39 : Cond.fieldLink RX0 39 RX0 (TX0 11).2.1 (TX0 11).2.2.1 ∈ gW := by decide +kernel
set_option maxRecDepth 100000 in
theorem fwX0_44 : Cond.fieldLink RX0 44 RX0 (TX0 12).2.1 (TX0 12).2.2.1 ∈ gW := by decide +kernel
set_option maxRecDepth 100000 in
theorem fwX0_47 : Cond.fieldLink RX0 47 RX0 (TX0 13).2.1 (TX0 13).2.2.1 ∈ gW := by decide +kernel
set_option maxRecDepth 100000 in
theorem fwX0_50 : Cond.fieldLink RX0 50 RX0 (TX0 14).2.1 (TX0 14).2.2.1 ∈ gW := by decide +kernel
set_option maxRecDepth 100000 in
theorem fwX0_53 : Cond.fieldLink RX0 53 RX0 (TX0 2).2.1 (TX0 2).2.2.1 ∈ gW := by decide +kernel
set_option maxRecDepth 100000 in
theorem fwX0_57 : Cond.fieldLink RX0 57 RX0 (TX0 0).2.1 (TX0 0).2.2.1 ∈ gW := by decide +kernel
set_option maxRecDepth 100000 in
theorem fwX0_60 : Cond.fieldLink RX0 60 RX0 (TX0 3).2.1 (TX0 3).2.2.1 ∈ gW := by decide +kernel
set_option maxRecDepth 100000 in
theorem fwX0_83 : Cond.fieldLink RX0 83 RX0 (TX0 7).2.1 (TX0 7).2.2.1 ∈ gW := by decide +kernel
set_option maxRecDepth 100000 in
theorem owX0_117 : Cond.constant RX0 117 (-1000001) ∈ gW := by decide +kernel
theorem tbX0 (cal : List (Nat × mC)) : mTb hX0 (kX0 cal) 0 15 vwC RX0 RX0 TX0 tyX0 := by
  refine ⟨rfl, usX0, tyX0_ok, nmX0, ?_, ?_, ?_⟩
  · intro j sl hj
    change fldX0 j = some sl at hj
    unfold fldX0 at hj
    split at hj
    · cases hj; exact ⟨by decide, rfl, fwX0_18⟩
    · cases hj; exact ⟨by decide, rfl, fwX0_21⟩
    · cases hj; exact ⟨by decide, rfl, fwX0_24⟩
    · cases hj; exact ⟨by decide, rfl, fwX0_27⟩
    · cases hj; exact ⟨by decide, rfl, fwX0_30⟩
    · cases hj; exact ⟨by decide, rfl, fwX0_33⟩
    · cases hj; exact ⟨by decide, rfl, fwX0_36⟩
    · cases hj; exact ⟨by decide, rfl, fwX0_39⟩
    · cases hj; exact ⟨by decide, rfl, fwX0_44⟩
    · cases hj; exact ⟨by decide, rfl, fwX0_47⟩
    · cases hj; exact ⟨by decide, rfl, fwX0_50⟩
    · cases hj; exact ⟨by decide, rfl, fwX0_53⟩
    · cases hj; exact ⟨by decide, rfl, fwX0_57⟩
    · cases hj; exact ⟨by decide, rfl, fwX0_60⟩
    · cases hj; exact ⟨by decide, rfl, fwX0_83⟩
    · cases hj
  · have key : ∀ sl, sl < 15 → kindX0 sl = none → (TX0 sl).2.2.2 = false ∧ parseFieldDescriptor (TX0 sl).2.2.1 = some .int := by decide +kernel
    exact key
  · intro j v hj
    change konX0 j = some v at hj
    unfold konX0 at hj
    split at hj
    · cases hj; exact owX0_117
    · cases hj
set_option maxRecDepth 100000 in
theorem usX1 : ∀ w ∈ u_ws RX1 TX1 20, w ∈ gW := by decide +kernel
set_option maxRecDepth 100000 in
theorem fwX1_7 : Cond.fieldLink RX1 7 RX1 (TX1 3).2.1 (TX1 3).2.2.1 ∈ gW := by decide +kernel
set_option maxRecDepth 100000 in
theorem fwX1_13 : Cond.fieldLink RX1 13 RX1 (TX1 4).2.1 (TX1 4).2.2.1 ∈ gW := by decide +kernel
set_option maxRecDepth 100000 in
theorem fwX1_16 : Cond.fieldLink RX1 16 RX1 (TX1 5).2.1 (TX1 5).2.2.1 ∈ gW := by decide +kernel
set_option maxRecDepth 100000 in
theorem fwX1_19 : Cond.fieldLink RX1 19 RX1 (TX1 6).2.1 (TX1 6).2.2.1 ∈ gW := by decide +kernel
set_option maxRecDepth 100000 in
theorem fwX1_22 : Cond.fieldLink RX1 22 RX1 (TX1 8).2.1 (TX1 8).2.2.1 ∈ gW := by decide +kernel
set_option maxRecDepth 100000 in
theorem fwX1_26 : Cond.fieldLink RX1 26 RX1 (TX1 9).2.1 (TX1 9).2.2.1 ∈ gW := by decide +kernel
set_option maxRecDepth 100000 in
theorem fwX1_29 : Cond.fieldLink RX1 29 RX1 (TX1 10).2.1 (TX1 10).2.2.1 ∈ gW := by decide +kernel
set_option maxRecDepth 100000 in
theorem fwX1_32 : Cond.fieldLink RX1 32 RX1 (TX1 11).2.1 (TX1 11).2.2.1 ∈ gW := by decide +kernel
set_option maxRecDepth 100000 in
theorem fwX1_35 : Cond.fieldLink RX1 35 RX1 (TX1 12).2.1 (TX1 12).2.2.1 ∈ gW := by decide +kernel
set_option maxRecDepth 100000 in
theorem fwX1_38 : Cond.fieldLink RX1 38 RX1 (TX1 13).2.1 (TX1 13).2.2.1 ∈ gW := by decide +kernel
set_option maxRecDepth 100000 in
theorem fwX1_41 : Cond.fieldLink RX1 41 RX1 (TX1 14).2.1 (TX1 14).2.2.1 ∈ gW := by decide +kernel
set_option maxRecDepth 100000 in
theorem fwX1_44 : Cond.fieldLink RX1 44 RX1 (TX1 15).2.1 (TX1 15).2.2.1 ∈ gW := by decide +kernel
set_option maxRecDepth 100000 in
theorem fwX1_47 : Cond.fieldLink RX1 47 RX1 (TX1 16).2.1 (TX1 16).2.2.1 ∈ gW := by decide +kernel
set_option maxRecDepth 100000 in
theorem fwX1_50 : Cond.fieldLink RX1 50 RX1 (TX1 17).2.1 (TX1 17).2.2.1 ∈ gW := by decide +kernel
set_option maxRecDepth 100000 in
theorem fwX1_53 : Cond.fieldLink RX1 53 RX1 (TX1 0).2.1 (TX1 0).2.2.1 ∈ gW := by decide +kernel
set_option maxRecDepth 100000 in
theorem fwX1_60 : Cond.fieldLink RX1 60 RX1 (TX1 1).2.1 (TX1 1).2.2.1 ∈ gW := by decide +kernel
set_option maxRecDepth 100000 in
theorem fwX1_63 : Cond.fieldLink RX1 63 RX1 (TX1 7).2.1 (TX1 7).2.2.1 ∈ gW := by decide +kernel
set_option maxRecDepth 100000 in
theorem fwX1_73 : Cond.fieldLink RX1 73 RX1 (TX1 2).2.1 (TX1 2).2.2.1 ∈ gW := by decide +kernel
set_option maxRecDepth 100000 in
theorem fwX1_105 : Cond.fieldLink RX1 105 RX1 (TX1 18).2.1 (TX1 18).2.2.1 ∈ gW := by decide +kernel
set_option maxRecDepth 100000 in
theorem fwX1_108 : Cond.fieldLink RX1 108 RX1 (TX1 19).2.1 (TX1 19).2.2.1 ∈ gW := by decide +kernel
set_option maxRecDepth 100000 in
theorem owX1_94 : Cond.constant RX1 94 (-1000001) ∈ gW := by decide +kernel
theorem tbX1 (cal : List (Nat × mC)) : mTb hX1 (kX1 cal) 1 20 vwC RX1 RX1 TX1 tyX1 := by
  refine ⟨rfl, usX1, tyX1_ok, nmX1, ?_, ?_, ?_⟩
  · intro j sl hj
    change fldX1 j = some sl at hj
    unfold fldX1 at hj
    split at hj
    · cases hj; exact ⟨by decide, rfl, fwX1_7⟩
    · cases hj; exact ⟨by decide, rfl, fwX1_13⟩
    · cases hj; exact ⟨by decide, rfl, fwX1_16⟩
    · cases hj; exact ⟨by decide, rfl, fwX1_19⟩
    · cases hj; exact ⟨by decide, rfl, fwX1_22⟩
    · cases hj; exact ⟨by decide, rfl, fwX1_26⟩
    · cases hj; exact ⟨by decide, rfl, fwX1_29⟩
    · cases hj; exact ⟨by decide, rfl, fwX1_32⟩
    · cases hj; exact ⟨by decide, rfl, fwX1_35⟩
    · cases hj; exact ⟨by decide, rfl, fwX1_38⟩
    · cases hj; exact ⟨by decide, rfl, fwX1_41⟩
    · cases hj; exact ⟨by decide, rfl, fwX1_44⟩
    · cases hj; exact ⟨by decide, rfl, fwX1_47⟩
    · cases hj; exact ⟨by decide, rfl, fwX1_50⟩
    · cases hj; exact ⟨by decide, rfl, fwX1_53⟩
    · cases hj; exact ⟨by decide, rfl, fwX1_60⟩
    · cases hj; exact ⟨by decide, rfl, fwX1_63⟩
    · cases hj; exact ⟨by decide, rfl, fwX1_73⟩
    · cases hj; exact ⟨by decide, rfl, fwX1_105⟩
    · cases hj; exact ⟨by decide, rfl, fwX1_108⟩
    · cases hj
  · have key : ∀ sl, sl < 20 → kindX1 sl = none → (TX1 sl).2.2.2 = false ∧ parseFieldDescriptor (TX1 sl).2.2.1 = some .int := by decide +kernel
    exact key
  · intro j v hj
    change konX1 j = some v at hj
    unfold konX1 at hj
    split at hj
    · cases hj; exact owX1_94
    · cases hj
