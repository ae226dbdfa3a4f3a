/-! THE TWO LISTS ARE ONE -/
theorem allN_cong {p q : Nat → Bool} : ∀ {n : Nat}, (∀ i, i < n → p i = q i) → allN p n = allN q n
  | 0, _ => rfl
  | n + 1, h => by
    unfold allN
    rw [allN_cong (fun i hi => h i (by omega)), h n (by omega)]
theorem bit_small {v : Nat} (hv : v < 4096) : bitF (nI v) = bcF (nI v) := by
  have tab : ∀ a, a < 64 → ∀ b, b < 64 → bitF (nI (64 * a + b)) = bcF (nI (64 * a + b)) := by decide +kernel
  have := tab (v / 64) (by omega) (v % 64) (by omega)
  rwa [show 64 * (v / 64) + v % 64 = v by omega] at this
section MLIST
variable {σ m : mS}
theorem rc_keep (h : RC σ m) (hn : mTn m ≤ 12) {v : Nat} (hv : v < 2 ^ mTn m) : cKeep σ (nI v) = mKeep m (nI v) := by
  unfold cKeep mKeep keepF
  have hp := pow12 hn
  have e1 : allN (fun s => ! decide (σ.2 1 1 < bcF (nI v &&& σ.2 3 s))) 4 = allN (fun s => ! decide (m.1 4 < nI (cN (fun x => hB (nI v) (nI x) && decide (m.2 1 x = nI s)) (mTn m)))) 4 := by
    refine allN_cong (fun s hs => ?_)
    have hbit : ∀ k, 12 ≤ k → k < 32 → bt (nI v &&& σ.2 3 s) k = false := fun k h1 h2 => by
      rw [b_and, bt_small hv (by omega) h2]
      rfl
    have e : bcF (nI v &&& σ.2 3 s) = nI (cN (fun x => hB (nI v) (nI x) && decide (m.2 1 x = nI s)) (mTn m)) := by
      rw [bc_bits hbit]
      congr 1
      have hz : cN (fun k => bt (nI v &&& σ.2 3 s) k) (mTn m + (12 - mTn m)) = cN (fun k => bt (nI v &&& σ.2 3 s) k) (mTn m) := cN_hi (mTn m) (12 - mTn m) (fun k h1 h2 => by
        rw [b_and, bt_small hv h1 (by omega)]
        rfl)
      rw [show mTn m + (12 - mTn m) = 12 by omega] at hz
      rw [hz]
      refine cN_cong (fun k hk => ?_)
      rw [b_and, h.2.2.2.2 s k hs (by omega), hB_bt (by omega)]
      simp [hk]
    rw [e, h.2.1.2.1]
  have e2 : allN (fun x => ! (hB (nI v) (nI x) && ! decide (nI v &&& σ.2 4 x = 0))) (cTn σ) = allN (fun x => ! (hB (nI v) (nI x) && ! decide (m.2 3 x &&& nI v = 0))) (mTn m) := by
    rw [rc_tn h]
    refine allN_cong (fun x hx => ?_)
    have : (nI v &&& σ.2 4 x = 0) ↔ (m.2 3 x &&& nI v = 0) := by rw [h.2.2.1.2.1, Int32.and_comm]
    rw [show decide (nI v &&& σ.2 4 x = 0) = decide (m.2 3 x &&& nI v = 0) from by rw [Bool.eq_iff_iff, decide_eq_true_eq, decide_eq_true_eq]; exact this]
  rw [e1, e2]
theorem rc_need (h : RC σ m) (hn : mTn m ≤ 12) {p : Nat} (hp : p < 8) : cNeed σ (nI p) = mNeed m (nI p) := by
  unfold cNeed mNeed turnF
  rw [h.2.2.1.2.2.2.2.2, h.2.1.2.2.1, rc_may h hn hp, rc_new h]
  simp only [decide_eq_true_eq]
/-- a set that isn't among the candidates changes nothing -/
theorem lst_skip {may k need : Int32} {keep : Int32 → Bool} {sum : Int32 → Int32} {C a : Nat} (hm : may = nI C) : ∀ d, a + d < 4096 → C < 4096 → (∀ v, a < v → v ≤ a + d → ¬ v &&& C = v) → lstF may k need keep sum (a + d) = lstF may k need keep sum a
  | 0, _, _, _ => rfl
  | d + 1, hb, hC, h => by
    show lstS may k need keep sum (nI (a + d + 1)) (lstF may k need keep sum (a + d)) = _
    rw [lst_skip hm d (by omega) hC (fun v h1 h2 => h v h1 (by omega))]
    unfold lstS
    rw [if_neg]
    intro q
    refine h (a + d + 1) (by omega) (by omega) ?_
    have q1 := q.1
    rw [hm] at q1
    refine Nat.eq_of_testBit_eq (fun i => ?_)
    rw [Nat.testBit_and]
    by_cases hi : i < 32
    · have := congrArg (fun z => bt z i) q1
      simp only [b_and, b_xor, bt_nI hi, b_m1 i hi, b_0] at this
      cases h1 : (a + d + 1).testBit i <;> cases h2 : C.testBit i <;> simp [h1, h2] at this ⊢
    · rw [Nat.testBit_lt_two_pow (Nat.lt_of_lt_of_le (show a + d + 1 < 2 ^ 12 by omega) (Nat.pow_le_pow_right (by decide) (by omega)))]
      rfl
theorem sub_iff {C v : Nat} (h : v &&& C = v) : nI v &&& (nI C ^^^ (-1)) = 0 := by
  refine b_ext (fun i hi => ?_)
  rw [b_and, b_xor, bt_nI hi, bt_nI hi, b_m1 i hi, b_0]
  have := congrArg (fun z => z.testBit i) h
  simp only [Nat.testBit_and] at this
  cases h1 : v.testBit i <;> cases h2 : C.testBit i <;> simp [h1, h2] at this ⊢
/-- the class's subsets and the model's sets, in step -/
theorem bl_lst {k need : Int32} {keep keep' : Int32 → Bool} {sum sum' : Int32 → Int32} {C : Nat} (hC : C < 4096) (hk : ∀ v, v &&& C = v → keep (nI v) = keep' (nI v)) (hs : ∀ v, v &&& C = v → sum (nI v) = sum' (nI v)) : ∀ i, i < 2 ^ popW 32 C → (blF (nI C) k need keep sum i).1 = nI (dep 32 C i) ∧ lstF (nI C) k need keep' sum' (dep 32 C i) = ((blF (nI C) k need keep sum i).2.1, (blF (nI C) k need keep sum i).2.2.2) ∧ (blF (nI C) k need keep sum i).2.2.1 = bitF (blF (nI C) k need keep sum i).2.1
  | 0, _ => by
    have d0 : dep 32 C 0 = 0 := by
      have : ∀ w C, dep w C 0 = 0 := by
        intro w
        induction w with
        | zero => intro C; rfl
        | succ w ih => intro C; unfold dep; rcases (show C % 2 = 0 ∨ C % 2 = 1 by omega) with e | e <;> simp [e, ih]
      exact this 32 C
    rw [d0]
    exact ⟨rfl, rfl, by show (0 : Int32) = bitF 0; decide +kernel⟩
  | i + 1, hi => by
    obtain ⟨h1, h2, h3⟩ := bl_lst (k := k) (need := need) hC hk hs i (by omega)
    have hlt := dep_lt 32 C i (i + 1) (by omega) hi
    have hsub := dep_sub 32 C (i + 1)
    have hle := sub_le hsub
    have hnx : (nI (dep 32 C i) - nI C) &&& nI C = nI (dep 32 C (i + 1)) := by
      rw [nI_next (by omega), dep_next 32 C i (by omega) hi]
    have hmid : lstF (nI C) k need keep' sum' (dep 32 C (i + 1) - 1) = lstF (nI C) k need keep' sum' (dep 32 C i) := by
      have := lst_skip (may := nI C) (k := k) (need := need) (keep := keep') (sum := sum') (C := C) (a := dep 32 C i) rfl (dep 32 C (i + 1) - 1 - dep 32 C i) (by omega) hC (fun v hv1 hv2 hv3 => by
        obtain ⟨n, hn, hne⟩ := dep_all 32 C v (by omega) hv3
        subst hne
        rcases Nat.lt_trichotomy n i with q | q | q
        · have := dep_lt 32 C n i q (by omega)
          omega
        · subst q; omega
        · rcases Nat.lt_or_ge n (i + 1) with z | z
          · omega
          · rcases Nat.lt_or_ge (i + 1) n with y | y
            · have := dep_lt 32 C (i + 1) n y hn
              omega
            · have : n = i + 1 := by omega
              subst this
              omega)
      rwa [show dep 32 C i + (dep 32 C (i + 1) - 1 - dep 32 C i) = dep 32 C (i + 1) - 1 by omega] at this
    have hstep : lstF (nI C) k need keep' sum' (dep 32 C (i + 1)) = lstS (nI C) k need keep' sum' (nI (dep 32 C (i + 1))) (lstF (nI C) k need keep' sum' (dep 32 C i)) := by
      obtain ⟨z, hz⟩ : ∃ z, dep 32 C (i + 1) = z + 1 := ⟨dep 32 C (i + 1) - 1, by omega⟩
      rw [hz] at hmid ⊢
      rw [← hmid]
      rfl
    rw [hstep, h2]
    have hbit := bit_small (v := dep 32 C (i + 1)) (by omega)
    have eb : blF (nI C) k need keep sum (i + 1) = blS (nI C) k need keep sum (blF (nI C) k need keep sum i) := rfl
    rw [eb]
    generalize blF (nI C) k need keep sum i = b at h1 h2 h3 ⊢
    obtain ⟨b1, b2, b3, b4⟩ := b
    dsimp only at h1 h2 h3
    subst h1
    subst h3
    generalize dep 32 C (i + 1) = v at hnx hsub hbit ⊢
    have hkv := hk v hsub
    have hsv := hs v hsub
    have hsi := sub_iff hsub
    unfold blS lstS
    dsimp only
    rw [hnx, hkv, hsv, ← hbit]
    by_cases q : (bitF (nI v) ≤ k ∧ bitF b2 ≤ bitF (nI v) ∧ (need = 0 ∨ ¬ nI v &&& need = 0)) ∧ keep' (nI v) = true ∧ (bitF b2 < bitF (nI v) ∨ b4 < sum' (nI v))
    · have q2 : nI v &&& (nI C ^^^ (-1)) = 0 ∧ bitF (nI v) ≤ k ∧ bitF b2 ≤ bitF (nI v) ∧ (need = 0 ∨ ¬ nI v &&& need = 0) ∧ keep' (nI v) = true ∧ ¬ (bitF (nI v) = bitF b2 ∧ sum' (nI v) ≤ b4) := by
        refine ⟨hsi, q.1.1, q.1.2.1, q.1.2.2, q.2.1, fun z => ?_⟩
        rcases q.2.2 with y | y
        · rw [z.1] at y; exact Int32.lt_irrefl y
        · exact Int32.not_lt.mpr z.2 y
      rw [if_pos q, if_pos q2]
      exact ⟨rfl, rfl, rfl⟩
    · have q2 : ¬ (nI v &&& (nI C ^^^ (-1)) = 0 ∧ bitF (nI v) ≤ k ∧ bitF b2 ≤ bitF (nI v) ∧ (need = 0 ∨ ¬ nI v &&& need = 0) ∧ keep' (nI v) = true ∧ ¬ (bitF (nI v) = bitF b2 ∧ sum' (nI v) ≤ b4)) := by
        intro z
        refine q ⟨⟨z.2.1, z.2.2.1, z.2.2.2.1⟩, z.2.2.2.2.1, ?_⟩
        by_cases y : bitF (nI v) = bitF b2
        · exact Or.inr (Int32.not_le.mp (fun x => z.2.2.2.2.2 ⟨y, x⟩))
        · exact Or.inl (Int32.not_le.mp (fun x => y (Int32.le_antisymm x z.2.2.1)))
      rw [if_neg q, if_neg q2]
      exact ⟨rfl, rfl, rfl⟩
end MLIST
