/-! SUBSETS IN ORDER -/
/-- n's bits laid on the bits of C (w bits of it) -/
def dep : Nat → Nat → Nat → Nat
  | 0, _, _ => 0
  | w + 1, C, n => if C % 2 = 1 then 2 * dep w (C / 2) (n / 2) + n % 2 else 2 * dep w (C / 2) n
def popW : Nat → Nat → Nat
  | 0, _ => 0
  | w + 1, C => popW w (C / 2) + C % 2
theorem and2 (a b x y : Nat) (hx : x < 2) (hy : y < 2) : (2 * a + x) &&& (2 * b + y) = 2 * (a &&& b) + x * y := by
  have h1 : ((2 * a + x) &&& (2 * b + y)) / 2 = a &&& b := by
    rw [Nat.and_div_two, show (2 * a + x) / 2 = a by omega, show (2 * b + y) / 2 = b by omega]
  have h2 : ((2 * a + x) &&& (2 * b + y)) % 2 = x * y := by
    have := Nat.and_mod_two_pow (a := 2 * a + x) (b := 2 * b + y) (n := 1)
    rw [Nat.pow_one] at this
    rw [this, show (2 * a + x) % 2 = x by omega, show (2 * b + y) % 2 = y by omega]
    rcases (show x = 0 ∨ x = 1 by omega) with rfl | rfl <;> rcases (show y = 0 ∨ y = 1 by omega) with rfl | rfl <;> decide
  omega
theorem sub_le {s C : Nat} (h : s &&& C = s) : s ≤ C := by rw [← h]; exact Nat.and_le_right
/-- halves of a submask -/
theorem sub_half {s C : Nat} (h : s &&& C = s) : (s / 2) &&& (C / 2) = s / 2 ∧ s % 2 ≤ C % 2 := by
  have e := and2 (s / 2) (C / 2) (s % 2) (C % 2) (by omega) (by omega)
  rw [show 2 * (s / 2) + s % 2 = s by omega, show 2 * (C / 2) + C % 2 = C by omega, h] at e
  rcases (show s % 2 = 0 ∨ s % 2 = 1 by omega) with h0 | h0 <;> rcases (show C % 2 = 0 ∨ C % 2 = 1 by omega) with h1 | h1 <;> rw [h0, h1] at e <;> constructor <;> omega
theorem comp : ∀ (w s C : Nat), C < 2 ^ w → s &&& C = s → (2 ^ w + s - C - 1) &&& C = s
  | 0, s, C, hC, h => by
    have : C = 0 := by simpa using hC
    subst this
    rw [Nat.and_zero] at h ⊢
    exact h
  | w + 1, s, C, hC, h => by
    obtain ⟨h1, h2⟩ := sub_half h
    have hC2 : C / 2 < 2 ^ w := by rw [Nat.pow_succ] at hC; omega
    have ih := comp w (s / 2) (C / 2) hC2 h1
    have hle := sub_le h1
    rw [Nat.pow_succ]
    rcases (show s % 2 = 0 ∨ s % 2 = 1 by omega) with e0 | e0 <;> rcases (show C % 2 = 0 ∨ C % 2 = 1 by omega) with e1 | e1
    · have := and2 (2 ^ w + s / 2 - C / 2 - 1) (C / 2) 1 0 (by omega) (by omega)
      rw [ih] at this
      rw [show 2 ^ w * 2 + s - C - 1 = 2 * (2 ^ w + s / 2 - C / 2 - 1) + 1 by omega]
      rw [show C = 2 * (C / 2) + 0 by omega]
      rw [show (2 * (C / 2) + 0) / 2 = C / 2 by omega, this]
      omega
    · have := and2 (2 ^ w + s / 2 - C / 2 - 1) (C / 2) 0 1 (by omega) (by omega)
      rw [ih] at this
      rw [show 2 ^ w * 2 + s - C - 1 = 2 * (2 ^ w + s / 2 - C / 2 - 1) + 0 by omega]
      rw [show C = 2 * (C / 2) + 1 by omega]
      rw [show (2 * (C / 2) + 1) / 2 = C / 2 by omega, this]
      omega
    · omega
    · have := and2 (2 ^ w + s / 2 - C / 2 - 1) (C / 2) 1 1 (by omega) (by omega)
      rw [ih] at this
      rw [show 2 ^ w * 2 + s - C - 1 = 2 * (2 ^ w + s / 2 - C / 2 - 1) + 1 by omega]
      rw [show C = 2 * (C / 2) + 1 by omega]
      rw [show (2 * (C / 2) + 1) / 2 = C / 2 by omega, this]
      omega
theorem dep_sub : ∀ (w C n : Nat), dep w C n &&& C = dep w C n
  | 0, C, n => by simp [dep]
  | w + 1, C, n => by
    unfold dep
    rcases (show C % 2 = 0 ∨ C % 2 = 1 by omega) with e | e
    · rw [if_neg (by omega)]
      have := and2 (dep w (C / 2) n) (C / 2) 0 0 (by omega) (by omega)
      rw [dep_sub w (C / 2) n, show 2 * (C / 2) + 0 = C by omega] at this
      simpa using this
    · rw [if_pos e]
      have := and2 (dep w (C / 2) (n / 2)) (C / 2) (n % 2) 1 (by omega) (by omega)
      rw [dep_sub w (C / 2) (n / 2), show 2 * (C / 2) + 1 = C by omega] at this
      rw [this]
      omega
/-- the step to the next subset -/
theorem dep_next : ∀ (w C n : Nat), C < 2 ^ w → n + 1 < 2 ^ popW w C → (2 ^ w + dep w C n - C) &&& C = dep w C (n + 1)
  | 0, C, n, _, h => by simp [popW] at h
  | w + 1, C, n, hC, h => by
    have hC2 : C / 2 < 2 ^ w := by rw [Nat.pow_succ] at hC; omega
    unfold popW at h
    rcases (show C % 2 = 0 ∨ C % 2 = 1 by omega) with e | e
    · rw [e, Nat.add_zero] at h
      have ih := dep_next w (C / 2) n hC2 h
      unfold dep
      rw [if_neg (by omega), if_neg (by omega)]
      have hl := sub_le (dep_sub w (C / 2) n)
      have := and2 (2 ^ w + dep w (C / 2) n - C / 2) (C / 2) 0 0 (by omega) (by omega)
      rw [ih, show 2 * (C / 2) + 0 = C by omega] at this
      rw [Nat.pow_succ, show 2 ^ w * 2 + 2 * dep w (C / 2) n - C = 2 * (2 ^ w + dep w (C / 2) n - C / 2) + 0 by omega, this]
      omega
    · rw [e, Nat.pow_succ] at h
      unfold dep
      rw [if_pos e, if_pos e]
      rcases (show n % 2 = 0 ∨ n % 2 = 1 by omega) with en | en
      · have hl := sub_le (dep_sub w (C / 2) (n / 2))
        have hc := comp w (dep w (C / 2) (n / 2)) (C / 2) hC2 (dep_sub w (C / 2) (n / 2))
        have := and2 (2 ^ w + dep w (C / 2) (n / 2) - C / 2 - 1) (C / 2) 1 1 (by omega) (by omega)
        rw [hc, show 2 * (C / 2) + 1 = C by omega] at this
        rw [Nat.pow_succ, show 2 ^ w * 2 + (2 * dep w (C / 2) (n / 2) + n % 2) - C = 2 * (2 ^ w + dep w (C / 2) (n / 2) - C / 2 - 1) + 1 by omega, this, show (n + 1) / 2 = n / 2 by omega, show (n + 1) % 2 = 1 by omega]
      · have ih := dep_next w (C / 2) (n / 2) hC2 (by omega)
        have hl := sub_le (dep_sub w (C / 2) (n / 2))
        have := and2 (2 ^ w + dep w (C / 2) (n / 2) - C / 2) (C / 2) 0 1 (by omega) (by omega)
        rw [ih, show 2 * (C / 2) + 1 = C by omega] at this
        rw [Nat.pow_succ, show 2 ^ w * 2 + (2 * dep w (C / 2) (n / 2) + n % 2) - C = 2 * (2 ^ w + dep w (C / 2) (n / 2) - C / 2) + 0 by omega, this, show (n + 1) / 2 = n / 2 + 1 by omega, show (n + 1) % 2 = 0 by omega]
theorem dep_top : ∀ (w C : Nat), C < 2 ^ w → dep w C (2 ^ popW w C - 1) = C
  | 0, C, hC => by
    have : C = 0 := by simpa using hC
    subst this
    rfl
  | w + 1, C, hC => by
    have hC2 : C / 2 < 2 ^ w := by rw [Nat.pow_succ] at hC; omega
    have ih := dep_top w (C / 2) hC2
    have hp : 1 ≤ 2 ^ popW w (C / 2) := Nat.one_le_two_pow
    unfold popW dep
    rcases (show C % 2 = 0 ∨ C % 2 = 1 by omega) with e | e
    · rw [if_neg (by omega), e, Nat.add_zero, ih]
      omega
    · rw [if_pos e, e, Nat.pow_succ, show (2 ^ popW w (C / 2) * 2 - 1) / 2 = 2 ^ popW w (C / 2) - 1 by omega, ih]
      omega
theorem dep_lt : ∀ (w C a b : Nat), a < b → b < 2 ^ popW w C → dep w C a < dep w C b
  | 0, C, a, b, h, hb => by simp [popW] at hb; omega
  | w + 1, C, a, b, h, hb => by
    unfold popW at hb
    unfold dep
    rcases (show C % 2 = 0 ∨ C % 2 = 1 by omega) with e | e
    · rw [e, Nat.add_zero] at hb
      have ih := dep_lt w (C / 2) a b h hb
      rw [if_neg (by omega), if_neg (by omega)]
      omega
    · rw [e, Nat.pow_succ] at hb
      rw [if_pos e, if_pos e]
      by_cases q : a / 2 = b / 2
      · rw [q]; omega
      · have ih := dep_lt w (C / 2) (a / 2) (b / 2) (by omega) (by omega)
        omega
theorem dep_all : ∀ (w C s : Nat), C < 2 ^ w → s &&& C = s → ∃ n, n < 2 ^ popW w C ∧ s = dep w C n
  | 0, C, s, hC, h => by
    have : C = 0 := by simpa using hC
    subst this
    rw [Nat.and_zero] at h
    exact ⟨0, by simp [popW], by rw [← h]; rfl⟩
  | w + 1, C, s, hC, h => by
    have hC2 : C / 2 < 2 ^ w := by rw [Nat.pow_succ] at hC; omega
    obtain ⟨h1, h2⟩ := sub_half h
    obtain ⟨n, hn, hs⟩ := dep_all w (C / 2) (s / 2) hC2 h1
    unfold popW dep
    rcases (show C % 2 = 0 ∨ C % 2 = 1 by omega) with e | e
    · rw [e, Nat.add_zero]
      refine ⟨n, hn, ?_⟩
      rw [if_neg (by omega), ← hs]
      omega
    · rw [e, Nat.pow_succ]
      refine ⟨2 * n + s % 2, by omega, ?_⟩
      rw [if_pos rfl, show (2 * n + s % 2) / 2 = n by omega, ← hs]
      omega
theorem cN_low {p : Nat → Bool} : ∀ n, cN p (n + 1) = (bif p 0 then 1 else 0) + cN (fun k => p (k + 1)) n
  | 0 => by simp [cN]
  | n + 1 => by
    have ih := cN_low (p := p) n
    rw [cN, ih]
    show _ = _ + (cN (fun k => p (k + 1)) n + (bif p (n + 1) then 1 else 0))
    omega
theorem popW_cN : ∀ (w C : Nat), popW w C = cN (fun k => C.testBit k) w
  | 0, _ => rfl
  | w + 1, C => by
    unfold popW
    rw [cN_low, popW_cN w (C / 2)]
    have e : (fun k => (C / 2).testBit k) = (fun k => C.testBit (k + 1)) := by
      funext k
      rw [Nat.testBit_succ]
    rw [e]
    rcases (show C % 2 = 0 ∨ C % 2 = 1 by omega) with h | h
    · have : C.testBit 0 = false := by rw [Nat.testBit_zero]; simp [h]
      rw [this, h]
      simp
    · have : C.testBit 0 = true := by rw [Nat.testBit_zero]; simp [h]
      rw [this, h]
      simp [Nat.add_comm]
theorem nI_wrap (a : Nat) : nI (2 ^ 32 + a) = nI a := by
  apply Int32.toBitVec_inj.mp
  show BitVec.ofNat 32 (2 ^ 32 + a) = BitVec.ofNat 32 a
  apply BitVec.eq_of_toNat_eq
  simp
theorem nI_next {s C : Nat} (hC : C < 2 ^ 32) : (nI s - nI C) &&& nI C = nI ((2 ^ 32 + s - C) &&& C) := by
  rw [← nI_wrap s, pk_sub (by omega), nx_and]
