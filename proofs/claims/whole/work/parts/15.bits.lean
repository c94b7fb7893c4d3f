/-! sets of carts as bits -/
def ms_k (f : Nat → Bool) : Nat → Nat
  | 0 => 0
  | n + 1 => ms_k f n + (if f n = true then 2 ^ n else 0)
def ms_c (f : Nat → Bool) : Nat → Nat
  | 0 => 0
  | n + 1 => ms_c f n + (if f n = true then 1 else 0)
theorem ms_lt (f : Nat → Bool) (n : Nat) : ms_k f n < 2 ^ n := by
  induction n with
  | zero => exact Nat.one_pos
  | succ n ih =>
    unfold ms_k
    have : 2 ^ (n + 1) = 2 ^ n + 2 ^ n := by rw [Nat.pow_succ]; omega
    split <;> omega
theorem ms_bit (f : Nat → Bool) (n i : Nat) : (ms_k f n).testBit i = (decide (i < n) && f i) := by
  induction n with
  | zero => simp [ms_k]
  | succ n ih =>
    unfold ms_k
    have hl := ms_lt f n
    by_cases hf : f n = true
    · rw [if_pos hf, Nat.add_comm]
      rcases Nat.lt_trichotomy i n with h | h | h
      · rw [Nat.testBit_two_pow_add_gt h, ih]
        simp [h, Nat.lt_succ_of_lt h]
      · subst h
        rw [Nat.testBit_two_pow_add_eq, ih]
        simp [hf]
      · rw [Nat.testBit_lt_two_pow]
        · have : ¬ i < n + 1 := by omega
          simp [this]
        · have h1 : 2 ^ (n + 1) ≤ 2 ^ i := Nat.pow_le_pow_right (by decide) h
          have : 2 ^ (n + 1) = 2 ^ n + 2 ^ n := by rw [Nat.pow_succ]; omega
          omega
    · rw [if_neg hf, Nat.add_zero, ih]
      by_cases h : i = n
      · subst h
        simp at hf
        simp [hf]
      · have : (i < n) = (i < n + 1) := by simp; omega
        simp [this]
theorem ms_or (f g : Nat → Bool) (n : Nat) : ms_k f n ||| ms_k g n = ms_k (fun c => f c || g c) n := by
  apply Nat.eq_of_testBit_eq
  intro i
  rw [Nat.testBit_or, ms_bit, ms_bit, ms_bit]
  cases decide (i < n) <;> simp
theorem ms_and (f g : Nat → Bool) (n : Nat) : ms_k f n &&& ms_k g n = ms_k (fun c => f c && g c) n := by
  apply Nat.eq_of_testBit_eq
  intro i
  rw [Nat.testBit_and, ms_bit, ms_bit, ms_bit]
  cases decide (i < n) <;> simp
theorem ms_congr {f g : Nat → Bool} {n : Nat} (h : ∀ c, c < n → f c = g c) : ms_k f n = ms_k g n := by
  induction n with
  | zero => rfl
  | succ n ih =>
    unfold ms_k
    rw [ih (fun c hc => h c (by omega)), h n (by omega)]
theorem ms_c_congr {f g : Nat → Bool} {n : Nat} (h : ∀ c, c < n → f c = g c) : ms_c f n = ms_c g n := by
  induction n with
  | zero => rfl
  | succ n ih =>
    unfold ms_c
    rw [ih (fun c hc => h c (by omega)), h n (by omega)]
theorem ms_c_le (f : Nat → Bool) (n : Nat) : ms_c f n ≤ n := by
  induction n with
  | zero => exact Nat.le_refl 0
  | succ n ih =>
    unfold ms_c
    split <;> omega
theorem nI_or (a b : Nat) : nI a ||| nI b = nI (a ||| b) := by
  apply Int32.toBitVec_inj.mp
  show BitVec.ofNat 32 a ||| BitVec.ofNat 32 b = BitVec.ofNat 32 (a ||| b)
  exact BitVec.ofNat_or.symm
theorem nI_and (a b : Nat) : nI a &&& nI b = nI (a &&& b) := by
  apply Int32.toBitVec_inj.mp
  show BitVec.ofNat 32 a &&& BitVec.ofNat 32 b = BitVec.ofNat 32 (a &&& b)
  exact BitVec.ofNat_and.symm
theorem ms_one {c : Nat} (h : c < 16) : (1 : Int32) <<< (nI c &&& 31) = nI (2 ^ c) := by
  have : ∀ c : Fin 16, (1 : Int32) <<< (nI c.1 &&& 31) = nI (2 ^ c.1) := by decide
  exact this ⟨c, h⟩
theorem ms_add {f : Nat → Bool} {c : Nat} (h : c < 16) (hf : f c = true) : nI (ms_k f c) ||| ((1 : Int32) <<< (nI c &&& 31)) = nI (ms_k f (c + 1)) := by
  rw [ms_one h, nI_or]
  congr 1
  have hl := ms_lt f c
  conv => rhs; unfold ms_k
  have e := Nat.two_pow_add_eq_or_of_lt hl 1
  rw [Nat.mul_one] at e
  rw [if_pos hf, Nat.or_comm, ← e, Nat.add_comm]
theorem ms_skip {f : Nat → Bool} {c : Nat} (hf : ¬ f c = true) : ms_k f (c + 1) = ms_k f c := by
  conv => lhs; unfold ms_k
  rw [if_neg hf]
  rfl
theorem ms_shr {c : Nat} (h : c < 16) : (((nI c &&& 31 : Int32)).toBitVec.smod 32).toNat = c := by
  have : ∀ c : Fin 16, (((nI c.1 &&& 31 : Int32)).toBitVec.smod 32).toNat = c.1 := by decide
  exact this ⟨c, h⟩
theorem ms_test {f : Nat → Bool} {c n : Nat} (hc : c < n) (hn : n ≤ 16) : (nI (ms_k f n) >>> (nI c &&& 31)) &&& 1 = (if f c = true then 1 else 0) := by
  have hl := ms_lt f n
  have h2 : 2 ^ n ≤ 2 ^ 16 := Nat.pow_le_pow_right (by decide) hn
  have hb := ms_bit f n c
  rw [Nat.testBit_eq_decide_div_mod_eq] at hb
  rw [pk_shrN (by omega) _ c (ms_shr (by omega)), pk_andN (Nat.lt_of_le_of_lt (Nat.div_le_self _ _) (by omega)) 1 (by decide)]
  simp only [hc, decide_true, Bool.true_and] at hb
  by_cases hf : f c = true
  · rw [if_pos hf]
    rw [hf] at hb
    rw [show ms_k f n / 2 ^ c % 2 ^ 1 = 1 by simpa using hb]
    rfl
  · rw [if_neg hf]
    simp only [hf] at hb
    have h3 : ms_k f n / 2 ^ c % 2 = 0 := by
      have := Nat.mod_two_eq_zero_or_one (ms_k f n / 2 ^ c)
      rcases this with h | h
      · exact h
      · rw [h] at hb; simp at hb
    rw [show ms_k f n / 2 ^ c % 2 ^ 1 = 0 by simpa using h3]
    rfl
theorem ms_zero {f : Nat → Bool} {n : Nat} (hn : n ≤ 16) : nI (ms_k f n) = 0 ↔ ∀ c, c < n → f c = false := by
  have hl := ms_lt f n
  have h2 : 2 ^ n ≤ 2 ^ 16 := Nat.pow_le_pow_right (by decide) hn
  rw [show (0 : Int32) = nI 0 from rfl, nI_eq (by omega) (by decide)]
  constructor
  · intro h c hc
    have hb := ms_bit f n c
    rw [h] at hb
    simpa [hc] using hb.symm
  · intro h
    apply Nat.eq_of_testBit_eq
    intro i
    rw [ms_bit, Nat.zero_testBit]
    by_cases hi : i < n
    · simp [hi, h i hi]
    · simp [hi]
