/-! the JDK's bitCount; an HOUR, told over rows of numbers -/
def jd_us (a b : Int32) : Int32 := (a.toUInt32 >>> (b.toUInt32 &&& Int32.toUInt32 31)).toInt32
def jd_b3 (v : Int32) : Int32 := (v + jd_us v 4) &&& 252645135
def jd_b2 (v : Int32) : Int32 := (v &&& 858993459) + (jd_us v 2 &&& 858993459)
def jd_b1 (v : Int32) : Int32 := v - (jd_us v 1 &&& 1431655765)
def jd_b4 (v : Int32) : Int32 := v + jd_us v 8
def jd_b5 (v : Int32) : Int32 := v + jd_us v 16
def jd_bc (v : Int32) : Int32 := jd_b5 (jd_b4 (jd_b3 (jd_b2 (jd_b1 v)))) &&& 63
theorem ms_c_s (f : Nat → Bool) (n : Nat) : ms_c f (n + 1) = ms_c f n + (if f n = true then 1 else 0) := rfl
theorem ms_c_cut (f : Nat → Bool) (n k : Nat) : ms_c (fun i => decide (i < n) && f i) k = ms_c f (min n k) := by
  induction k with
  | zero => simp [ms_c]
  | succ k ih =>
    rw [ms_c_s, ih]
    by_cases h : k < n
    · rw [show min n (k + 1) = k + 1 by omega, show min n k = k by omega, ms_c_s]
      simp [h]
    · rw [show min n (k + 1) = n by omega, show min n k = n by omega]
      simp [h]
theorem jd_bc_ms (f : Nat → Bool) {n : Nat} (hn : n ≤ 7) : jd_bc (nI (ms_k f n)) = nI (ms_c f n) := by
  have key : ∀ m : Fin 128, jd_bc (nI m.1) = nI (ms_c (fun i => m.1.testBit i) 7) := by decide +kernel
  have hl : ms_k f n < 128 := Nat.lt_of_lt_of_le (ms_lt f n) (Nat.pow_le_pow_right (by decide) hn : 2 ^ n ≤ 2 ^ 7)
  rw [key ⟨_, hl⟩]
  congr 1
  show ms_c (fun i => (ms_k f n).testBit i) 7 = _
  rw [show (fun i => (ms_k f n).testBit i) = (fun i => decide (i < n) && f i) from funext (fun i => ms_bit f n i), ms_c_cut, Nat.min_eq_left hn]
/-- numbers below n of row k become v -/
def ax_fill (σ : ax_Z) (k n : Nat) (v : Int32) : ax_Z := fun a b => if a = k ∧ b < n then v else σ a b
theorem ax_fill_0 {σ : ax_Z} {k : Nat} {v : Int32} : ax_fill σ k 0 v = σ := by
  funext a b
  simp [ax_fill]
theorem ax_fill_s {σ : ax_Z} {k n : Nat} {v : Int32} : ax_up (ax_fill σ k n v) k n v = ax_fill σ k (n + 1) v := by
  funext a b
  unfold ax_up ax_fill
  by_cases h1 : a = k
  · by_cases h2 : b = n
    · simp [h1, h2]
    · have : (b < n + 1) = (b < n) := by simp; omega
      simp [h1, h2, this]
  · simp [h1]
/-- the carts of a set: their numbers in row k become v -/
def hs_gone (σ : ax_Z) (k : Nat) (tr : Nat → Bool) (v : Int32) (n : Nat) : ax_Z := fun a b => if a = k ∧ b < n ∧ tr b = true then v else σ a b
theorem hs_gone_0 {σ : ax_Z} {k : Nat} {tr : Nat → Bool} {v : Int32} : hs_gone σ k tr v 0 = σ := by
  funext a b
  simp [hs_gone]
theorem hs_gone_t {σ : ax_Z} {k n : Nat} {tr : Nat → Bool} {v : Int32} (h : tr n = true) : ax_up (hs_gone σ k tr v n) k n v = hs_gone σ k tr v (n + 1) := by
  funext a b
  unfold ax_up hs_gone
  by_cases h1 : a = k
  · by_cases h2 : b = n
    · simp [h1, h2, h]
    · have : (b < n + 1) = (b < n) := by simp; omega
      simp [h1, h2, this]
  · simp [h1]
theorem hs_gone_f {σ : ax_Z} {k n : Nat} {tr : Nat → Bool} {v : Int32} (h : ¬ tr n = true) : hs_gone σ k tr v (n + 1) = hs_gone σ k tr v n := by
  funext a b
  unfold hs_gone
  by_cases h2 : b = n
  · subst h2
    simp [h]
  · have : (b < n + 1) = (b < n) := by simp; omega
    simp only [this]
def hs_st (come went : Nat → Int32) (hr : Int32) (c : Nat) : Bool := decide (come c ≤ hr) && decide (went c = -1000000)
/-- of a cart that stands, ahead of the last hour -/
def hs_r1 (kind come pat : Nat → Int32) (hr : Int32) (en : Bool) (c : Nat) : Bool :=
  if kind c = 5 then true else if kind c = 3 then false else if kind c = 2 then decide (come c + pat c ≤ hr) || en else decide (come c + pat c ≤ hr)
def hs_rd (kind come pat went : Nat → Int32) (hr : Int32) (n c : Nat) : Bool :=
  hs_st come went hr c && (decide (hr = 11) || hs_r1 kind come pat hr (decide (3 ≤ ms_c (hs_st come went hr) n)) c)
def hs_fo (kind : Nat → Int32) (c : Nat) : Bool := decide (kind c = 1) || decide (kind c = 2) || decide (kind c = 3)
def hs_tr (kind come pat went : Nat → Int32) (hr : Int32) (n c : Nat) : Bool := hs_rd kind come pat went hr n c || (hs_fo kind c && hs_st come went hr c)
def hs_ah (kind come tm : Nat → Int32) (c d : Nat) : Bool :=
  if decide (kind c = 3) ≠ decide (kind d = 3) then decide (kind d = 3) else if tm c ≠ tm d then decide (tm c < tm d) else decide (come c < come d)
def hs_f (rd : Nat → Bool) (ah : Nat → Nat → Bool) : Nat → Option Nat
  | 0 => none
  | n + 1 => match hs_f rd ah n with
    | none => if rd n = true then some n else none
    | some f => if rd n = true ∧ ah n f = true then some n else some f
theorem hs_f_lt {rd : Nat → Bool} {ah : Nat → Nat → Bool} {n f : Nat} (h : hs_f rd ah n = some f) : f < n ∧ rd f = true := by
  induction n generalizing f with
  | zero => cases h
  | succ n ih =>
    unfold hs_f at h
    split at h
    · split at h
      · next hr => cases h; exact ⟨Nat.lt_succ_self _, hr⟩
      · cases h
    · next g hg =>
      split at h
      · next hr => cases h; exact ⟨Nat.lt_succ_self _, hr.1⟩
      · cases h
        obtain ⟨h1, h2⟩ := ih hg
        exact ⟨by omega, h2⟩
theorem hs_f_none {rd : Nat → Bool} {ah : Nat → Nat → Bool} {n : Nat} : hs_f rd ah n = none ↔ ∀ c, c < n → rd c = false := by
  induction n with
  | zero => simp [hs_f]
  | succ n ih =>
    unfold hs_f
    split
    · next hg =>
      rw [ih] at hg
      constructor
      · intro h c hc
        by_cases e : c = n
        · subst e
          cases hr : rd c with
          | false => rfl
          | true => simp [hr] at h
        · exact hg c (by omega)
      · intro h
        simp [h n (by omega)]
    · next g hg =>
      constructor
      · intro h
        split at h <;> cases h
      · intro h
        obtain ⟨h1, h2⟩ := hs_f_lt hg
        rw [h g (by omega)] at h2
        cases h2
/-- the toll for k carts -/
def hs_toll (toll : Nat → Int32) (k : Nat) : Int32 := if k = 0 then 0 else toll (min k 6 - 1)
