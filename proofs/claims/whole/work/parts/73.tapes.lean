/-! the two tapes are read alike -/
theorem wb_tb (n : Nat) : (lN n).toBitVec = BitVec.ofNat 64 n := rfl
theorem wb_inj {a b : Int64} (h : a.toBitVec = b.toBitVec) : a = b := Int64.toBitVec_inj.mp h
theorem wb_c : ∀ k, k < 64 → ((nI k).toInt64 &&& 63) = lN k := by decide +kernel
theorem wb_sm : ∀ k, k < 64 → (BitVec.ofNat 64 k).smod 64 = BitVec.ofNat 64 k := by decide +kernel
theorem wb_shl (n : Nat) {k : Nat} (hk : k < 64) : lN n <<< ((nI k).toInt64 &&& 63) = lN (n * 2 ^ k) := by
  rw [wb_c k hk]
  apply wb_inj
  rw [Int64.toBitVec_shiftLeft, wb_tb, wb_tb, wb_tb, wb_sm k hk]
  apply BitVec.eq_of_toNat_eq
  rw [BitVec.shiftLeft_eq', BitVec.toNat_shiftLeft, BitVec.toNat_ofNat, BitVec.toNat_ofNat, BitVec.toNat_ofNat, Nat.mod_eq_of_lt (show k < 2 ^ 64 by omega), Nat.shiftLeft_eq, Nat.mul_mod, Nat.mod_mod, ← Nat.mul_mod]
theorem wb_or {a b : Nat} (ha : a < 2 ^ 64) (hb : b < 2 ^ 64) : lN a ||| lN b = lN (a ||| b) := by
  apply wb_inj
  rw [Int64.toBitVec_or, wb_tb, wb_tb, wb_tb]
  apply BitVec.eq_of_toNat_eq
  rw [BitVec.toNat_or, BitVec.toNat_ofNat, BitVec.toNat_ofNat, BitVec.toNat_ofNat, Nat.mod_eq_of_lt ha, Nat.mod_eq_of_lt hb, Nat.mod_eq_of_lt (Nat.or_lt_two_pow ha hb)]
def TT (x m : Nat → Int32) (N : Nat) : Prop := ∀ i, i < N → ∃ v : Nat, v < 256 ∧ m i = nI v ∧ x i = (nI v).toInt8.toInt32
theorem tb_dec : ∀ v : Fin 256, (decide ((nI v.1).toInt8.toInt32 = 32) = decide (nI v.1 = 32)) ∧ (decide ((nI v.1).toInt8.toInt32 = 10) = decide (nI v.1 = 10)) ∧ ((decide (97 ≤ (nI v.1).toInt8.toInt32) && decide ((nI v.1).toInt8.toInt32 ≤ 122)) = (decide (97 ≤ nI v.1) && decide (nI v.1 ≤ 122))) ∧ ((decide (48 ≤ (nI v.1).toInt8.toInt32) && decide ((nI v.1).toInt8.toInt32 ≤ 57)) = (decide (48 ≤ nI v.1) && decide (nI v.1 ≤ 57))) ∧ (decide ((nI v.1).toInt8.toInt32 = 59) = decide (nI v.1 = 59)) ∧ (v.1 < 128 → (nI v.1).toInt8.toInt32 = nI v.1) := by decide +kernel
section TT
variable {x m : Nat → Int32} {N : Nat}
theorem TT.w (h : TT x m N) {i : Nat} (hi : i < N) : isW x i = isW m i := by
  obtain ⟨v, v1, v2, v3⟩ := h i hi
  have d := tb_dec ⟨v, v1⟩
  unfold isW
  rw [v2, v3, d.1, d.2.1]
theorem TT.l (h : TT x m N) {i : Nat} (hi : i < N) : isL x i = isL m i := by
  obtain ⟨v, v1, v2, v3⟩ := h i hi
  have d := tb_dec ⟨v, v1⟩
  unfold isL
  rw [v2, v3]
  exact d.2.2.1
theorem TT.f (h : TT x m N) {i : Nat} (hi : i < N) : isF x i = isF m i := by
  obtain ⟨v, v1, v2, v3⟩ := h i hi
  have d := tb_dec ⟨v, v1⟩
  unfold isF
  rw [v2, v3]
  exact d.2.2.2.1
theorem TT.s (h : TT x m N) {i : Nat} (hi : i < N) : x i = 59 ↔ m i = 59 := by
  obtain ⟨v, v1, v2, v3⟩ := h i hi
  have d := (tb_dec ⟨v, v1⟩).2.2.2.2.1
  rw [v2, v3]
  exact decide_eq_decide.mp d
/-- a letter or figure is the same number on both tapes -/
theorem TT.e (h : TT x m N) {i : Nat} (hi : i < N) {lo hi' : Nat} (h1 : nI lo ≤ m i) (h2 : m i ≤ nI hi') (h3 : hi' < 128) (h0 : lo < 128) : ∃ v : Nat, lo ≤ v ∧ v ≤ hi' ∧ m i = nI v ∧ x i = nI v := by
  obtain ⟨v, v1, v2, v3⟩ := h i hi
  have d := (tb_dec ⟨v, v1⟩).2.2.2.2.2
  rw [v2] at h1 h2
  have a2 : v ≤ hi' := (nI_leI (by omega) (by omega)).mp h2
  have a1 : lo ≤ v := (nI_leI (by omega) (by omega)).mp h1
  exact ⟨v, a1, a2, v2, by rw [v3]; exact d (by show v < 128; omega)⟩
theorem lx_c {f g : Nat → Bool} (h : ∀ i, i < N → f i = g i) : ∀ q p, lx_r f N q p = lx_r g N q p := by
  intro q
  induction q with
  | zero => intro p; rfl
  | succ q ih =>
    intro p
    unfold lx_r
    by_cases hp : p < N
    · rw [h p hp, ih]
    · rw [if_neg (fun z => hp z.1), if_neg (fun z => hp z.1)]
theorem LX_c {f g : Nat → Bool} (h : ∀ i, i < N → f i = g i) (p : Nat) : LX f N p = LX g N p := lx_c h _ _
theorem LX_all {f : Nat → Bool} {p : Nat} : ∀ i, p ≤ i → i < LX f N p → i < N ∧ f i = true := by
  have a : ∀ q p i, p ≤ i → i < lx_r f N q p → i < N ∧ f i = true := by
    intro q
    induction q with
    | zero => intro p i h1 h2; exact absurd h2 (Nat.not_lt.mpr h1)
    | succ q ih =>
      intro p i h1 h2
      unfold lx_r at h2
      split at h2
      · next z =>
        by_cases e : i = p
        · subst e
          exact z
        · exact ih (p + 1) i (by omega) h2
      · omega
  exact a _ _
theorem TT.S (h : TT x m N) (e : Nat) : tkS x N e = tkS m N e := LX_c (fun i hi => h.w hi) e
theorem TT.K (h : TT x m N) (e : Nat) : tkK x N e = tkK m N e ∧ tkE x N e = tkE m N e := by
  unfold tkK tkE
  rw [h.S e]
  generalize tkS m N e = s
  by_cases hs : N ≤ s
  · rw [if_pos hs, if_pos hs, if_pos hs, if_pos hs]
    exact ⟨rfl, rfl⟩
  · have hs' : s < N := Nat.lt_of_not_le hs
    rw [if_neg hs, if_neg hs, if_neg hs, if_neg hs, h.l hs', h.f hs', LX_c (fun i hi => h.f hi), LX_c (fun i hi => h.l hi)]
    refine ⟨?_, rfl⟩
    by_cases q : m s = 59
    · rw [if_pos q, if_pos ((h.s hs').mpr q)]
    · rw [if_neg q, if_neg (fun z => q ((h.s hs').mp z))]
theorem TT.E (h : TT x m N) : ∀ i, EE x N i = EE m N i := by
  intro i
  induction i with
  | zero => rfl
  | succ i ih => rw [EE, EE, ih, (h.K _).2]
theorem TT.kk (h : TT x m N) (i : Nat) : tK m N i = tK x N i := by
  show tkK m N (EE m N i) = tkK x N (EE x N i)
  rw [← h.E, (h.K _).1]
theorem TT.ss (h : TT x m N) (i : Nat) : tS m N i = tS x N i := by
  show tkS m N (EE m N i) = tkS x N (EE x N i)
  rw [← h.E, h.S]
/-! numbers -/
theorem tk2 {b : Nat → Int32} {e : Nat} (h : tkK b N e = 2) : tkE b N e = LX (isF b) N (tkS b N e) ∧ tkE b N e - tkS b N e ≤ 3 := by
  unfold tkK at h
  unfold tkE
  split at h
  · cases h
  · next h1 =>
    rw [if_neg h1]
    split at h
    · cases h
    · next h2 =>
      rw [if_neg h2]
      split at h
      · next h3 =>
        rw [if_pos h3]
        split at h
        · next h4 => exact ⟨rfl, h4⟩
        · cases h
      · split at h <;> cases h
theorem tk1 {b : Nat → Int32} {e : Nat} (h : tkK b N e = 1) : tkE b N e = LX (isL b) N (tkS b N e) := by
  unfold tkK at h
  unfold tkE
  split at h
  · cases h
  · next h1 =>
    rw [if_neg h1]
    split at h
    · next h2 => rw [if_pos h2]
    · split at h
      · split at h <;> cases h
      · split at h <;> cases h
theorem nu_v {b c : Nat → Int32} {s : Nat} : ∀ k, k ≤ 3 → (∀ j, j < k → ∃ v : Nat, 48 ≤ v ∧ v ≤ 57 ∧ c (s + j) = nI v ∧ b (s + j) = nI v) → lx_v b s k = mv_f c s k ∧ ∃ r : Nat, r < 10 ^ k ∧ mv_f c s k = nI r := by
  intro k
  induction k with
  | zero => intro _ _; exact ⟨rfl, 0, by decide, rfl⟩
  | succ k ih =>
    intro hk H
    obtain ⟨i1, r, r1, r2⟩ := ih (by omega) (fun j hj => H j (by omega))
    obtain ⟨v, v1, v2, v3, v4⟩ := H k (by omega)
    have e10 : (10 : Nat) ^ (k + 1) = 10 ^ k * 10 := Nat.pow_succ 10 k
    rw [lx_v, if_pos (by omega), mv_f, i1, v3, v4, r2]
    refine ⟨rfl, 10 * r + v - 48, by omega, ?_⟩
    rw [show (10 : Int32) = nI 10 from rfl, show (48 : Int32) = nI 48 from rfl, pk_mul, nI_add, pk_sub (by omega)]

theorem TT.num (h : TT x m N) {i : Nat} (hK : tkK x N (EE x N i) = 2) : pm_v m N i = tkv x N (EE x N i) ∧ 0 ≤ pm_v m N i := by
  obtain ⟨e1, e2⟩ := tk2 hK
  have hE : EE m N (i + 1) = tkE x N (EE x N i) := by rw [← h.E]; rfl
  have fg : ∀ j, j < tkE x N (EE x N i) - tkS x N (EE x N i) → ∃ v : Nat, 48 ≤ v ∧ v ≤ 57 ∧ m (tkS x N (EE x N i) + j) = nI v ∧ x (tkS x N (EE x N i) + j) = nI v := by
    intro j hj
    have q := LX_all (N := N) (f := isF x) (p := tkS x N (EE x N i)) (tkS x N (EE x N i) + j) (by omega) (by rw [← e1]; omega)
    have q2 := q.2
    rw [h.f q.1] at q2
    unfold isF at q2
    simp only [Bool.and_eq_true, decide_eq_true_eq] at q2
    exact h.e (lo := 48) (hi' := 57) q.1 q2.1 q2.2 (by decide) (by decide)
  obtain ⟨a1, r, a2, a3⟩ := nu_v _ e2 fg
  unfold pm_v
  rw [h.ss i, hE]
  show mv_f m (tkS x N (EE x N i)) (tkE x N (EE x N i) - tkS x N (EE x N i)) = _ ∧ 0 ≤ mv_f m (tkS x N (EE x N i)) (tkE x N (EE x N i) - tkS x N (EE x N i))
  refine ⟨?_, ?_⟩
  · unfold tkv
    rw [← a1, ← e1]
  · rw [a3]
    have : (10 : Nat) ^ (tkE x N (EE x N i) - tkS x N (EE x N i)) ≤ 10 ^ 3 := Nat.pow_le_pow_right (by decide) e2
    exact nI_pos' (by omega)

/-! names -/
def vn (V : Nat → Nat) : Nat → Nat
  | 0 => 0
  | k + 1 => vn V k * 256 + V k
theorem vn_lt {V : Nat → Nat} : ∀ k, (∀ j, j < k → V j < 256) → vn V k < 256 ^ k := by
  intro k
  induction k with
  | zero => intro _; exact Nat.zero_lt_one
  | succ k ih =>
    intro h
    have a := ih (fun j hj => h j (by omega))
    have b := h k (by omega)
    rw [vn, Nat.pow_succ]
    omega
theorem mn_n {b : Nat → Int32} {s : Nat} {V : Nat → Nat} : ∀ k, k < 8 → (∀ j, j < k → V j < 256 ∧ b (s + j) = nI (V j)) → mn_v b s k = lN (vn V k) := by
  intro k
  induction k with
  | zero => intro _ _; rfl
  | succ k ih =>
    intro hk H
    obtain ⟨v1, v2⟩ := H k (by omega)
    have a : vn V k < 256 ^ k := vn_lt k (fun j hj => (H j (by omega)).1)
    have c : (256 : Nat) ^ k ≤ 256 ^ 6 := Nat.pow_le_pow_right (by decide) (by omega)
    have c6 : (256 : Nat) ^ 6 = 281474976710656 := by decide
    have e256 : (2 : Nat) ^ 8 = 256 := by decide
    have t64 : (2 : Nat) ^ 64 = 18446744073709551616 := by decide
    rw [mn_v, ih (by omega) (fun j hj => H j (by omega)), v2, nI_l (by omega)]
    show lN (vn V k) <<< ((nI 8).toInt64 &&& 63) ||| lN (V k) = _
    rw [wb_shl _ (by decide), wb_or (by rw [e256]; omega) (by omega), vn]
    congr 1
    rw [← Nat.shiftLeft_eq, ← Nat.shiftLeft_add_eq_or_of_lt (by rw [e256]; exact v1), Nat.shiftLeft_eq, e256]

theorem wq_0 {W : Nat → Nat} {k : Nat} (hm : k < 8) (hW : ∀ j, j < k → 97 ≤ W j ∧ W j ≤ 122) : vn W k = 1953459308 ↔ (k = 4 ∧ W 0 = 116 ∧ W 1 = 111 ∧ W 2 = 108 ∧ W 3 = 108) := by
  rcases (show k = 0 ∨ k = 1 ∨ k = 2 ∨ k = 3 ∨ k = 4 ∨ k = 5 ∨ k = 6 ∨ k = 7 by omega) with rfl | rfl | rfl | rfl | rfl | rfl | rfl | rfl
  · exact ⟨fun z => absurd (show (0 : Nat) = 1953459308 from z) (by decide), fun z => absurd z.1 (by decide)⟩
  · have h0 := hW 0 (by decide)
    simp only [vn]
    omega
  · have h0 := hW 0 (by decide)
    have h1 := hW 1 (by decide)
    simp only [vn]
    omega
  · have h0 := hW 0 (by decide)
    have h1 := hW 1 (by decide)
    have h2 := hW 2 (by decide)
    simp only [vn]
    omega
  · have h0 := hW 0 (by decide)
    have h1 := hW 1 (by decide)
    have h2 := hW 2 (by decide)
    have h3 := hW 3 (by decide)
    simp only [vn]
    constructor
    · intro z
      refine ⟨trivial, ?_, ?_, ?_, ?_⟩ <;> omega
    · rintro ⟨-, a0, a1, a2, a3⟩
      omega
  · have h0 := hW 0 (by decide)
    have h1 := hW 1 (by decide)
    have h2 := hW 2 (by decide)
    have h3 := hW 3 (by decide)
    have h4 := hW 4 (by decide)
    simp only [vn]
    omega
  · have h0 := hW 0 (by decide)
    have h1 := hW 1 (by decide)
    have h2 := hW 2 (by decide)
    have h3 := hW 3 (by decide)
    have h4 := hW 4 (by decide)
    have h5 := hW 5 (by decide)
    simp only [vn]
    omega
  · have h0 := hW 0 (by decide)
    have h1 := hW 1 (by decide)
    have h2 := hW 2 (by decide)
    have h3 := hW 3 (by decide)
    have h4 := hW 4 (by decide)
    have h5 := hW 5 (by decide)
    have h6 := hW 6 (by decide)
    simp only [vn]
    omega

theorem wq_1 {W : Nat → Nat} {k : Nat} (hm : k < 8) (hW : ∀ j, j < k → 97 ≤ W j ∧ W j ≤ 122) : vn W k = 1667330676 ↔ (k = 4 ∧ W 0 = 99 ∧ W 1 = 97 ∧ W 2 = 114 ∧ W 3 = 116) := by
  rcases (show k = 0 ∨ k = 1 ∨ k = 2 ∨ k = 3 ∨ k = 4 ∨ k = 5 ∨ k = 6 ∨ k = 7 by omega) with rfl | rfl | rfl | rfl | rfl | rfl | rfl | rfl
  · exact ⟨fun z => absurd (show (0 : Nat) = 1667330676 from z) (by decide), fun z => absurd z.1 (by decide)⟩
  · have h0 := hW 0 (by decide)
    simp only [vn]
    omega
  · have h0 := hW 0 (by decide)
    have h1 := hW 1 (by decide)
    simp only [vn]
    omega
  · have h0 := hW 0 (by decide)
    have h1 := hW 1 (by decide)
    have h2 := hW 2 (by decide)
    simp only [vn]
    omega
  · have h0 := hW 0 (by decide)
    have h1 := hW 1 (by decide)
    have h2 := hW 2 (by decide)
    have h3 := hW 3 (by decide)
    simp only [vn]
    constructor
    · intro z
      refine ⟨trivial, ?_, ?_, ?_, ?_⟩ <;> omega
    · rintro ⟨-, a0, a1, a2, a3⟩
      omega
  · have h0 := hW 0 (by decide)
    have h1 := hW 1 (by decide)
    have h2 := hW 2 (by decide)
    have h3 := hW 3 (by decide)
    have h4 := hW 4 (by decide)
    simp only [vn]
    omega
  · have h0 := hW 0 (by decide)
    have h1 := hW 1 (by decide)
    have h2 := hW 2 (by decide)
    have h3 := hW 3 (by decide)
    have h4 := hW 4 (by decide)
    have h5 := hW 5 (by decide)
    simp only [vn]
    omega
  · have h0 := hW 0 (by decide)
    have h1 := hW 1 (by decide)
    have h2 := hW 2 (by decide)
    have h3 := hW 3 (by decide)
    have h4 := hW 4 (by decide)
    have h5 := hW 5 (by decide)
    have h6 := hW 6 (by decide)
    simp only [vn]
    omega

theorem wq_2 {W : Nat → Nat} {k : Nat} (hm : k < 8) (hW : ∀ j, j < k → 97 ≤ W j ∧ W j ≤ 122) : vn W k = 2002872692 ↔ (k = 4 ∧ W 0 = 119 ∧ W 1 = 97 ∧ W 2 = 105 ∧ W 3 = 116) := by
  rcases (show k = 0 ∨ k = 1 ∨ k = 2 ∨ k = 3 ∨ k = 4 ∨ k = 5 ∨ k = 6 ∨ k = 7 by omega) with rfl | rfl | rfl | rfl | rfl | rfl | rfl | rfl
  · exact ⟨fun z => absurd (show (0 : Nat) = 2002872692 from z) (by decide), fun z => absurd z.1 (by decide)⟩
  · have h0 := hW 0 (by decide)
    simp only [vn]
    omega
  · have h0 := hW 0 (by decide)
    have h1 := hW 1 (by decide)
    simp only [vn]
    omega
  · have h0 := hW 0 (by decide)
    have h1 := hW 1 (by decide)
    have h2 := hW 2 (by decide)
    simp only [vn]
    omega
  · have h0 := hW 0 (by decide)
    have h1 := hW 1 (by decide)
    have h2 := hW 2 (by decide)
    have h3 := hW 3 (by decide)
    simp only [vn]
    constructor
    · intro z
      refine ⟨trivial, ?_, ?_, ?_, ?_⟩ <;> omega
    · rintro ⟨-, a0, a1, a2, a3⟩
      omega
  · have h0 := hW 0 (by decide)
    have h1 := hW 1 (by decide)
    have h2 := hW 2 (by decide)
    have h3 := hW 3 (by decide)
    have h4 := hW 4 (by decide)
    simp only [vn]
    omega
  · have h0 := hW 0 (by decide)
    have h1 := hW 1 (by decide)
    have h2 := hW 2 (by decide)
    have h3 := hW 3 (by decide)
    have h4 := hW 4 (by decide)
    have h5 := hW 5 (by decide)
    simp only [vn]
    omega
  · have h0 := hW 0 (by decide)
    have h1 := hW 1 (by decide)
    have h2 := hW 2 (by decide)
    have h3 := hW 3 (by decide)
    have h4 := hW 4 (by decide)
    have h5 := hW 5 (by decide)
    have h6 := hW 6 (by decide)
    simp only [vn]
    omega

theorem wq_3 {W : Nat → Nat} {k : Nat} (hm : k < 8) (hW : ∀ j, j < k → 97 ≤ W j ∧ W j ≤ 122) : vn W k = 1718579821 ↔ (k = 4 ∧ W 0 = 102 ∧ W 1 = 111 ∧ W 2 = 114 ∧ W 3 = 109) := by
  rcases (show k = 0 ∨ k = 1 ∨ k = 2 ∨ k = 3 ∨ k = 4 ∨ k = 5 ∨ k = 6 ∨ k = 7 by omega) with rfl | rfl | rfl | rfl | rfl | rfl | rfl | rfl
  · exact ⟨fun z => absurd (show (0 : Nat) = 1718579821 from z) (by decide), fun z => absurd z.1 (by decide)⟩
  · have h0 := hW 0 (by decide)
    simp only [vn]
    omega
  · have h0 := hW 0 (by decide)
    have h1 := hW 1 (by decide)
    simp only [vn]
    omega
  · have h0 := hW 0 (by decide)
    have h1 := hW 1 (by decide)
    have h2 := hW 2 (by decide)
    simp only [vn]
    omega
  · have h0 := hW 0 (by decide)
    have h1 := hW 1 (by decide)
    have h2 := hW 2 (by decide)
    have h3 := hW 3 (by decide)
    simp only [vn]
    constructor
    · intro z
      refine ⟨trivial, ?_, ?_, ?_, ?_⟩ <;> omega
    · rintro ⟨-, a0, a1, a2, a3⟩
      omega
  · have h0 := hW 0 (by decide)
    have h1 := hW 1 (by decide)
    have h2 := hW 2 (by decide)
    have h3 := hW 3 (by decide)
    have h4 := hW 4 (by decide)
    simp only [vn]
    omega
  · have h0 := hW 0 (by decide)
    have h1 := hW 1 (by decide)
    have h2 := hW 2 (by decide)
    have h3 := hW 3 (by decide)
    have h4 := hW 4 (by decide)
    have h5 := hW 5 (by decide)
    simp only [vn]
    omega
  · have h0 := hW 0 (by decide)
    have h1 := hW 1 (by decide)
    have h2 := hW 2 (by decide)
    have h3 := hW 3 (by decide)
    have h4 := hW 4 (by decide)
    have h5 := hW 5 (by decide)
    have h6 := hW 6 (by decide)
    simp only [vn]
    omega

theorem wq_4 {W : Nat → Nat} {k : Nat} (hm : k < 8) (hW : ∀ j, j < k → 97 ≤ W j ∧ W j ≤ 122) : vn W k = 1650549611 ↔ (k = 4 ∧ W 0 = 98 ∧ W 1 = 97 ∧ W 2 = 99 ∧ W 3 = 107) := by
  rcases (show k = 0 ∨ k = 1 ∨ k = 2 ∨ k = 3 ∨ k = 4 ∨ k = 5 ∨ k = 6 ∨ k = 7 by omega) with rfl | rfl | rfl | rfl | rfl | rfl | rfl | rfl
  · exact ⟨fun z => absurd (show (0 : Nat) = 1650549611 from z) (by decide), fun z => absurd z.1 (by decide)⟩
  · have h0 := hW 0 (by decide)
    simp only [vn]
    omega
  · have h0 := hW 0 (by decide)
    have h1 := hW 1 (by decide)
    simp only [vn]
    omega
  · have h0 := hW 0 (by decide)
    have h1 := hW 1 (by decide)
    have h2 := hW 2 (by decide)
    simp only [vn]
    omega
  · have h0 := hW 0 (by decide)
    have h1 := hW 1 (by decide)
    have h2 := hW 2 (by decide)
    have h3 := hW 3 (by decide)
    simp only [vn]
    constructor
    · intro z
      refine ⟨trivial, ?_, ?_, ?_, ?_⟩ <;> omega
    · rintro ⟨-, a0, a1, a2, a3⟩
      omega
  · have h0 := hW 0 (by decide)
    have h1 := hW 1 (by decide)
    have h2 := hW 2 (by decide)
    have h3 := hW 3 (by decide)
    have h4 := hW 4 (by decide)
    simp only [vn]
    omega
  · have h0 := hW 0 (by decide)
    have h1 := hW 1 (by decide)
    have h2 := hW 2 (by decide)
    have h3 := hW 3 (by decide)
    have h4 := hW 4 (by decide)
    have h5 := hW 5 (by decide)
    simp only [vn]
    omega
  · have h0 := hW 0 (by decide)
    have h1 := hW 1 (by decide)
    have h2 := hW 2 (by decide)
    have h3 := hW 3 (by decide)
    have h4 := hW 4 (by decide)
    have h5 := hW 5 (by decide)
    have h6 := hW 6 (by decide)
    simp only [vn]
    omega

theorem wq_5 {W : Nat → Nat} {k : Nat} (hm : k < 8) (hW : ∀ j, j < k → 97 ≤ W j ∧ W j ≤ 122) : vn W k = 26479 ↔ (k = 2 ∧ W 0 = 103 ∧ W 1 = 111) := by
  rcases (show k = 0 ∨ k = 1 ∨ k = 2 ∨ k = 3 ∨ k = 4 ∨ k = 5 ∨ k = 6 ∨ k = 7 by omega) with rfl | rfl | rfl | rfl | rfl | rfl | rfl | rfl
  · exact ⟨fun z => absurd (show (0 : Nat) = 26479 from z) (by decide), fun z => absurd z.1 (by decide)⟩
  · have h0 := hW 0 (by decide)
    simp only [vn]
    omega
  · have h0 := hW 0 (by decide)
    have h1 := hW 1 (by decide)
    simp only [vn]
    constructor
    · intro z
      refine ⟨trivial, ?_, ?_⟩ <;> omega
    · rintro ⟨-, a0, a1⟩
      omega
  · have h0 := hW 0 (by decide)
    have h1 := hW 1 (by decide)
    have h2 := hW 2 (by decide)
    simp only [vn]
    omega
  · have h0 := hW 0 (by decide)
    have h1 := hW 1 (by decide)
    have h2 := hW 2 (by decide)
    have h3 := hW 3 (by decide)
    simp only [vn]
    omega
  · have h0 := hW 0 (by decide)
    have h1 := hW 1 (by decide)
    have h2 := hW 2 (by decide)
    have h3 := hW 3 (by decide)
    have h4 := hW 4 (by decide)
    simp only [vn]
    omega
  · have h0 := hW 0 (by decide)
    have h1 := hW 1 (by decide)
    have h2 := hW 2 (by decide)
    have h3 := hW 3 (by decide)
    have h4 := hW 4 (by decide)
    have h5 := hW 5 (by decide)
    simp only [vn]
    omega
  · have h0 := hW 0 (by decide)
    have h1 := hW 1 (by decide)
    have h2 := hW 2 (by decide)
    have h3 := hW 3 (by decide)
    have h4 := hW 4 (by decide)
    have h5 := hW 5 (by decide)
    have h6 := hW 6 (by decide)
    simp only [vn]
    omega

theorem wq_6 {W : Nat → Nat} {k : Nat} (hm : k < 8) (hW : ∀ j, j < k → 97 ≤ W j ∧ W j ≤ 122) : vn W k = 422725643876 ↔ (k = 5 ∧ W 0 = 98 ∧ W 1 = 108 ∧ W 2 = 105 ∧ W 3 = 110 ∧ W 4 = 100) := by
  rcases (show k = 0 ∨ k = 1 ∨ k = 2 ∨ k = 3 ∨ k = 4 ∨ k = 5 ∨ k = 6 ∨ k = 7 by omega) with rfl | rfl | rfl | rfl | rfl | rfl | rfl | rfl
  · exact ⟨fun z => absurd (show (0 : Nat) = 422725643876 from z) (by decide), fun z => absurd z.1 (by decide)⟩
  · have h0 := hW 0 (by decide)
    simp only [vn]
    omega
  · have h0 := hW 0 (by decide)
    have h1 := hW 1 (by decide)
    simp only [vn]
    omega
  · have h0 := hW 0 (by decide)
    have h1 := hW 1 (by decide)
    have h2 := hW 2 (by decide)
    simp only [vn]
    omega
  · have h0 := hW 0 (by decide)
    have h1 := hW 1 (by decide)
    have h2 := hW 2 (by decide)
    have h3 := hW 3 (by decide)
    simp only [vn]
    omega
  · have h0 := hW 0 (by decide)
    have h1 := hW 1 (by decide)
    have h2 := hW 2 (by decide)
    have h3 := hW 3 (by decide)
    have h4 := hW 4 (by decide)
    simp only [vn]
    constructor
    · intro z
      refine ⟨trivial, ?_, ?_, ?_, ?_, ?_⟩ <;> omega
    · rintro ⟨-, a0, a1, a2, a3, a4⟩
      omega
  · have h0 := hW 0 (by decide)
    have h1 := hW 1 (by decide)
    have h2 := hW 2 (by decide)
    have h3 := hW 3 (by decide)
    have h4 := hW 4 (by decide)
    have h5 := hW 5 (by decide)
    simp only [vn]
    omega
  · have h0 := hW 0 (by decide)
    have h1 := hW 1 (by decide)
    have h2 := hW 2 (by decide)
    have h3 := hW 3 (by decide)
    have h4 := hW 4 (by decide)
    have h5 := hW 5 (by decide)
    have h6 := hW 6 (by decide)
    simp only [vn]
    omega

theorem wd_0x {x : Nat → Int32} {s e : Nat} : wd x s e 0 = true ↔ (e - s = 4 ∧ x (s + 0) = 116 ∧ x (s + 1) = 111 ∧ x (s + 2) = 108 ∧ x (s + 3) = 108) := by
  show (decide (e - s = 4) && ((((true && decide (x (s + 0) = 116)) && decide (x (s + 1) = 111)) && decide (x (s + 2) = 108)) && decide (x (s + 3) = 108))) = true ↔ _
  simp only [Bool.and_eq_true, decide_eq_true_eq, true_and, and_assoc]

theorem wd_1x {x : Nat → Int32} {s e : Nat} : wd x s e 1 = true ↔ (e - s = 4 ∧ x (s + 0) = 99 ∧ x (s + 1) = 97 ∧ x (s + 2) = 114 ∧ x (s + 3) = 116) := by
  show (decide (e - s = 4) && ((((true && decide (x (s + 0) = 99)) && decide (x (s + 1) = 97)) && decide (x (s + 2) = 114)) && decide (x (s + 3) = 116))) = true ↔ _
  simp only [Bool.and_eq_true, decide_eq_true_eq, true_and, and_assoc]

theorem wd_2x {x : Nat → Int32} {s e : Nat} : wd x s e 2 = true ↔ (e - s = 4 ∧ x (s + 0) = 119 ∧ x (s + 1) = 97 ∧ x (s + 2) = 105 ∧ x (s + 3) = 116) := by
  show (decide (e - s = 4) && ((((true && decide (x (s + 0) = 119)) && decide (x (s + 1) = 97)) && decide (x (s + 2) = 105)) && decide (x (s + 3) = 116))) = true ↔ _
  simp only [Bool.and_eq_true, decide_eq_true_eq, true_and, and_assoc]

theorem wd_3x {x : Nat → Int32} {s e : Nat} : wd x s e 3 = true ↔ (e - s = 4 ∧ x (s + 0) = 102 ∧ x (s + 1) = 111 ∧ x (s + 2) = 114 ∧ x (s + 3) = 109) := by
  show (decide (e - s = 4) && ((((true && decide (x (s + 0) = 102)) && decide (x (s + 1) = 111)) && decide (x (s + 2) = 114)) && decide (x (s + 3) = 109))) = true ↔ _
  simp only [Bool.and_eq_true, decide_eq_true_eq, true_and, and_assoc]

theorem wd_4x {x : Nat → Int32} {s e : Nat} : wd x s e 4 = true ↔ (e - s = 4 ∧ x (s + 0) = 98 ∧ x (s + 1) = 97 ∧ x (s + 2) = 99 ∧ x (s + 3) = 107) := by
  show (decide (e - s = 4) && ((((true && decide (x (s + 0) = 98)) && decide (x (s + 1) = 97)) && decide (x (s + 2) = 99)) && decide (x (s + 3) = 107))) = true ↔ _
  simp only [Bool.and_eq_true, decide_eq_true_eq, true_and, and_assoc]

theorem wd_5x {x : Nat → Int32} {s e : Nat} : wd x s e 5 = true ↔ (e - s = 2 ∧ x (s + 0) = 103 ∧ x (s + 1) = 111) := by
  show (decide (e - s = 2) && ((true && decide (x (s + 0) = 103)) && decide (x (s + 1) = 111))) = true ↔ _
  simp only [Bool.and_eq_true, decide_eq_true_eq, true_and, and_assoc]

theorem wd_6x {x : Nat → Int32} {s e : Nat} : wd x s e 6 = true ↔ (e - s = 5 ∧ x (s + 0) = 98 ∧ x (s + 1) = 108 ∧ x (s + 2) = 105 ∧ x (s + 3) = 110 ∧ x (s + 4) = 100) := by
  show (decide (e - s = 5) && (((((true && decide (x (s + 0) = 98)) && decide (x (s + 1) = 108)) && decide (x (s + 2) = 105)) && decide (x (s + 3) = 110)) && decide (x (s + 4) = 100))) = true ↔ _
  simp only [Bool.and_eq_true, decide_eq_true_eq, true_and, and_assoc]

/-- a name on both tapes -/
theorem TT.nm (h : TT x m N) {i : Nat} (hK : tkK x N (EE x N i) = 1) : ∃ (W : Nat → Nat), (∀ j, j < EE x N (i + 1) - tkS x N (EE x N i) → 97 ≤ W j ∧ W j ≤ 122 ∧ x (tkS x N (EE x N i) + j) = nI (W j)) ∧ (EE x N (i + 1) - tkS x N (EE x N i) < 8 → pm_n m N (i, 0) = lN (vn W (EE x N (i + 1) - tkS x N (EE x N i)))) ∧ (¬ EE x N (i + 1) - tkS x N (EE x N i) < 8 → pm_n m N (i, 0) = 0) := by
  have e1 : EE x N (i + 1) = LX (isL x) N (tkS x N (EE x N i)) := tk1 hK
  have lt : ∀ j, j < EE x N (i + 1) - tkS x N (EE x N i) → ∃ v : Nat, 97 ≤ v ∧ v ≤ 122 ∧ m (tkS x N (EE x N i) + j) = nI v ∧ x (tkS x N (EE x N i) + j) = nI v := by
    intro j hj
    have q := LX_all (N := N) (f := isL x) (p := tkS x N (EE x N i)) (tkS x N (EE x N i) + j) (by omega) (by rw [← e1]; omega)
    have q2 := q.2
    rw [h.l q.1] at q2
    unfold isL at q2
    simp only [Bool.and_eq_true, decide_eq_true_eq] at q2
    exact h.e (lo := 97) (hi' := 122) q.1 q2.1 q2.2 (by decide) (by decide)
  have hK' : tkK m N (EE m N i) = 1 := by
    rw [← h.E, ← (h.K _).1]
    exact hK
  have hS' : tkS m N (EE m N i) = tkS x N (EE x N i) := by rw [← h.E, ← h.S]
  have hE' : EE m N (i + 1) = EE x N (i + 1) := (h.E _).symm
  refine ⟨fun j => (x (tkS x N (EE x N i) + j)).toNatClampNeg, fun j hj => ?_, fun h8 => ?_, fun h8 => ?_⟩
  · obtain ⟨v, v1, v2, v3, v4⟩ := lt j hj
    show 97 ≤ (x (tkS x N (EE x N i) + j)).toNatClampNeg ∧ (x (tkS x N (EE x N i) + j)).toNatClampNeg ≤ 122 ∧ x (tkS x N (EE x N i) + j) = nI (x (tkS x N (EE x N i) + j)).toNatClampNeg
    rw [v4, nI_clamp (by omega)]
    exact ⟨v1, v2, rfl⟩
  · show (if (0 : Nat) = 0 then (if tkK m N (EE m N i) = 1 ∧ EE m N (i + 1) - tkS m N (EE m N i) < 8 then mn_v m (tkS m N (EE m N i)) (EE m N (i + 1) - tkS m N (EE m N i)) else 0) else 0) = _
    rw [if_pos rfl, hS', hE', if_pos ⟨hK', h8⟩]
    refine mn_n _ h8 (fun j hj => ?_)
    obtain ⟨v, v1, v2, v3, v4⟩ := lt j hj
    show (x (tkS x N (EE x N i) + j)).toNatClampNeg < 256 ∧ m (tkS x N (EE x N i) + j) = nI (x (tkS x N (EE x N i) + j)).toNatClampNeg
    rw [v4, nI_clamp (by omega)]
    exact ⟨by omega, v3⟩
  · show (if (0 : Nat) = 0 then (if tkK m N (EE m N i) = 1 ∧ EE m N (i + 1) - tkS m N (EE m N i) < 8 then mn_v m (tkS m N (EE m N i)) (EE m N (i + 1) - tkS m N (EE m N i)) else 0) else 0) = _
    rw [if_pos rfl, hS', hE', if_neg (fun z => h8 z.2)]
theorem TT.n0 (h : TT x m N) {i : Nat} (hK : ¬ tkK x N (EE x N i) = 1) : pm_n m N (i, 0) = 0 := by
  have hK' : ¬ tkK m N (EE m N i) = 1 := by
    rw [← h.E, ← (h.K _).1]
    exact hK
  show (if (0 : Nat) = 0 then (if tkK m N (EE m N i) = 1 ∧ EE m N (i + 1) - tkS m N (EE m N i) < 8 then mn_v m (tkS m N (EE m N i)) (EE m N (i + 1) - tkS m N (EE m N i)) else 0) else 0) = _
  rw [if_pos rfl, if_neg (fun z => hK' z.1)]

theorem TT.w0 (h : TT x m N) {i : Nat} : pm_n m N (i, 0) = 1953459308 ↔ wd_t x N i 0 = true := by
  rw [← wd_t_iff]
  by_cases hK : tkK x N (EE x N i) = 1
  · obtain ⟨W, w1, w2, w3⟩ := h.nm hK
    rw [wd_0x]
    by_cases h8 : EE x N (i + 1) - tkS x N (EE x N i) < 8
    · have vl : vn W (EE x N (i + 1) - tkS x N (EE x N i)) < 256 ^ (EE x N (i + 1) - tkS x N (EE x N i)) := vn_lt _ (fun j hj => by have := w1 j hj; omega)
      have v7 : (256 : Nat) ^ (EE x N (i + 1) - tkS x N (EE x N i)) ≤ 256 ^ 7 := Nat.pow_le_pow_right (by decide) (by omega)
      have e7 : (256 : Nat) ^ 7 = 72057594037927936 := by decide
      have e63 : (2 : Nat) ^ 63 = 9223372036854775808 := by decide
      rw [w2 h8, show (1953459308 : Int64) = lN 1953459308 from rfl, pk_lEQ (by omega) (by decide), wq_0 h8 (fun j hj => ⟨(w1 j hj).1, (w1 j hj).2.1⟩)]
      constructor
      · rintro ⟨hn, a0, a1, a2, a3⟩
        refine ⟨hK, hn, ?_, ?_, ?_, ?_⟩
        · rw [(w1 0 (by omega)).2.2, a0]; rfl
        · rw [(w1 1 (by omega)).2.2, a1]; rfl
        · rw [(w1 2 (by omega)).2.2, a2]; rfl
        · rw [(w1 3 (by omega)).2.2, a3]; rfl
      · rintro ⟨-, hn, a0, a1, a2, a3⟩
        refine ⟨hn, ?_, ?_, ?_, ?_⟩
        · rw [(w1 0 (by omega)).2.2] at a0
          exact (nI_eq (b := 116) (by have := w1 0 (by omega); omega) (by decide)).mp a0
        · rw [(w1 1 (by omega)).2.2] at a1
          exact (nI_eq (b := 111) (by have := w1 1 (by omega); omega) (by decide)).mp a1
        · rw [(w1 2 (by omega)).2.2] at a2
          exact (nI_eq (b := 108) (by have := w1 2 (by omega); omega) (by decide)).mp a2
        · rw [(w1 3 (by omega)).2.2] at a3
          exact (nI_eq (b := 108) (by have := w1 3 (by omega); omega) (by decide)).mp a3
    · rw [w3 h8]
      constructor
      · intro z
        exact absurd z (by decide)
      · rintro ⟨-, hn, -⟩
        omega
  · rw [h.n0 hK]
    constructor
    · intro z
      exact absurd z (by decide)
    · rintro ⟨z, -⟩
      exact absurd z hK

theorem TT.w1 (h : TT x m N) {i : Nat} : pm_n m N (i, 0) = 1667330676 ↔ wd_t x N i 1 = true := by
  rw [← wd_t_iff]
  by_cases hK : tkK x N (EE x N i) = 1
  · obtain ⟨W, w1, w2, w3⟩ := h.nm hK
    rw [wd_1x]
    by_cases h8 : EE x N (i + 1) - tkS x N (EE x N i) < 8
    · have vl : vn W (EE x N (i + 1) - tkS x N (EE x N i)) < 256 ^ (EE x N (i + 1) - tkS x N (EE x N i)) := vn_lt _ (fun j hj => by have := w1 j hj; omega)
      have v7 : (256 : Nat) ^ (EE x N (i + 1) - tkS x N (EE x N i)) ≤ 256 ^ 7 := Nat.pow_le_pow_right (by decide) (by omega)
      have e7 : (256 : Nat) ^ 7 = 72057594037927936 := by decide
      have e63 : (2 : Nat) ^ 63 = 9223372036854775808 := by decide
      rw [w2 h8, show (1667330676 : Int64) = lN 1667330676 from rfl, pk_lEQ (by omega) (by decide), wq_1 h8 (fun j hj => ⟨(w1 j hj).1, (w1 j hj).2.1⟩)]
      constructor
      · rintro ⟨hn, a0, a1, a2, a3⟩
        refine ⟨hK, hn, ?_, ?_, ?_, ?_⟩
        · rw [(w1 0 (by omega)).2.2, a0]; rfl
        · rw [(w1 1 (by omega)).2.2, a1]; rfl
        · rw [(w1 2 (by omega)).2.2, a2]; rfl
        · rw [(w1 3 (by omega)).2.2, a3]; rfl
      · rintro ⟨-, hn, a0, a1, a2, a3⟩
        refine ⟨hn, ?_, ?_, ?_, ?_⟩
        · rw [(w1 0 (by omega)).2.2] at a0
          exact (nI_eq (b := 99) (by have := w1 0 (by omega); omega) (by decide)).mp a0
        · rw [(w1 1 (by omega)).2.2] at a1
          exact (nI_eq (b := 97) (by have := w1 1 (by omega); omega) (by decide)).mp a1
        · rw [(w1 2 (by omega)).2.2] at a2
          exact (nI_eq (b := 114) (by have := w1 2 (by omega); omega) (by decide)).mp a2
        · rw [(w1 3 (by omega)).2.2] at a3
          exact (nI_eq (b := 116) (by have := w1 3 (by omega); omega) (by decide)).mp a3
    · rw [w3 h8]
      constructor
      · intro z
        exact absurd z (by decide)
      · rintro ⟨-, hn, -⟩
        omega
  · rw [h.n0 hK]
    constructor
    · intro z
      exact absurd z (by decide)
    · rintro ⟨z, -⟩
      exact absurd z hK

theorem TT.w2 (h : TT x m N) {i : Nat} : pm_n m N (i, 0) = 2002872692 ↔ wd_t x N i 2 = true := by
  rw [← wd_t_iff]
  by_cases hK : tkK x N (EE x N i) = 1
  · obtain ⟨W, w1, w2, w3⟩ := h.nm hK
    rw [wd_2x]
    by_cases h8 : EE x N (i + 1) - tkS x N (EE x N i) < 8
    · have vl : vn W (EE x N (i + 1) - tkS x N (EE x N i)) < 256 ^ (EE x N (i + 1) - tkS x N (EE x N i)) := vn_lt _ (fun j hj => by have := w1 j hj; omega)
      have v7 : (256 : Nat) ^ (EE x N (i + 1) - tkS x N (EE x N i)) ≤ 256 ^ 7 := Nat.pow_le_pow_right (by decide) (by omega)
      have e7 : (256 : Nat) ^ 7 = 72057594037927936 := by decide
      have e63 : (2 : Nat) ^ 63 = 9223372036854775808 := by decide
      rw [w2 h8, show (2002872692 : Int64) = lN 2002872692 from rfl, pk_lEQ (by omega) (by decide), wq_2 h8 (fun j hj => ⟨(w1 j hj).1, (w1 j hj).2.1⟩)]
      constructor
      · rintro ⟨hn, a0, a1, a2, a3⟩
        refine ⟨hK, hn, ?_, ?_, ?_, ?_⟩
        · rw [(w1 0 (by omega)).2.2, a0]; rfl
        · rw [(w1 1 (by omega)).2.2, a1]; rfl
        · rw [(w1 2 (by omega)).2.2, a2]; rfl
        · rw [(w1 3 (by omega)).2.2, a3]; rfl
      · rintro ⟨-, hn, a0, a1, a2, a3⟩
        refine ⟨hn, ?_, ?_, ?_, ?_⟩
        · rw [(w1 0 (by omega)).2.2] at a0
          exact (nI_eq (b := 119) (by have := w1 0 (by omega); omega) (by decide)).mp a0
        · rw [(w1 1 (by omega)).2.2] at a1
          exact (nI_eq (b := 97) (by have := w1 1 (by omega); omega) (by decide)).mp a1
        · rw [(w1 2 (by omega)).2.2] at a2
          exact (nI_eq (b := 105) (by have := w1 2 (by omega); omega) (by decide)).mp a2
        · rw [(w1 3 (by omega)).2.2] at a3
          exact (nI_eq (b := 116) (by have := w1 3 (by omega); omega) (by decide)).mp a3
    · rw [w3 h8]
      constructor
      · intro z
        exact absurd z (by decide)
      · rintro ⟨-, hn, -⟩
        omega
  · rw [h.n0 hK]
    constructor
    · intro z
      exact absurd z (by decide)
    · rintro ⟨z, -⟩
      exact absurd z hK

theorem TT.w3 (h : TT x m N) {i : Nat} : pm_n m N (i, 0) = 1718579821 ↔ wd_t x N i 3 = true := by
  rw [← wd_t_iff]
  by_cases hK : tkK x N (EE x N i) = 1
  · obtain ⟨W, w1, w2, w3⟩ := h.nm hK
    rw [wd_3x]
    by_cases h8 : EE x N (i + 1) - tkS x N (EE x N i) < 8
    · have vl : vn W (EE x N (i + 1) - tkS x N (EE x N i)) < 256 ^ (EE x N (i + 1) - tkS x N (EE x N i)) := vn_lt _ (fun j hj => by have := w1 j hj; omega)
      have v7 : (256 : Nat) ^ (EE x N (i + 1) - tkS x N (EE x N i)) ≤ 256 ^ 7 := Nat.pow_le_pow_right (by decide) (by omega)
      have e7 : (256 : Nat) ^ 7 = 72057594037927936 := by decide
      have e63 : (2 : Nat) ^ 63 = 9223372036854775808 := by decide
      rw [w2 h8, show (1718579821 : Int64) = lN 1718579821 from rfl, pk_lEQ (by omega) (by decide), wq_3 h8 (fun j hj => ⟨(w1 j hj).1, (w1 j hj).2.1⟩)]
      constructor
      · rintro ⟨hn, a0, a1, a2, a3⟩
        refine ⟨hK, hn, ?_, ?_, ?_, ?_⟩
        · rw [(w1 0 (by omega)).2.2, a0]; rfl
        · rw [(w1 1 (by omega)).2.2, a1]; rfl
        · rw [(w1 2 (by omega)).2.2, a2]; rfl
        · rw [(w1 3 (by omega)).2.2, a3]; rfl
      · rintro ⟨-, hn, a0, a1, a2, a3⟩
        refine ⟨hn, ?_, ?_, ?_, ?_⟩
        · rw [(w1 0 (by omega)).2.2] at a0
          exact (nI_eq (b := 102) (by have := w1 0 (by omega); omega) (by decide)).mp a0
        · rw [(w1 1 (by omega)).2.2] at a1
          exact (nI_eq (b := 111) (by have := w1 1 (by omega); omega) (by decide)).mp a1
        · rw [(w1 2 (by omega)).2.2] at a2
          exact (nI_eq (b := 114) (by have := w1 2 (by omega); omega) (by decide)).mp a2
        · rw [(w1 3 (by omega)).2.2] at a3
          exact (nI_eq (b := 109) (by have := w1 3 (by omega); omega) (by decide)).mp a3
    · rw [w3 h8]
      constructor
      · intro z
        exact absurd z (by decide)
      · rintro ⟨-, hn, -⟩
        omega
  · rw [h.n0 hK]
    constructor
    · intro z
      exact absurd z (by decide)
    · rintro ⟨z, -⟩
      exact absurd z hK

theorem TT.w4 (h : TT x m N) {i : Nat} : pm_n m N (i, 0) = 1650549611 ↔ wd_t x N i 4 = true := by
  rw [← wd_t_iff]
  by_cases hK : tkK x N (EE x N i) = 1
  · obtain ⟨W, w1, w2, w3⟩ := h.nm hK
    rw [wd_4x]
    by_cases h8 : EE x N (i + 1) - tkS x N (EE x N i) < 8
    · have vl : vn W (EE x N (i + 1) - tkS x N (EE x N i)) < 256 ^ (EE x N (i + 1) - tkS x N (EE x N i)) := vn_lt _ (fun j hj => by have := w1 j hj; omega)
      have v7 : (256 : Nat) ^ (EE x N (i + 1) - tkS x N (EE x N i)) ≤ 256 ^ 7 := Nat.pow_le_pow_right (by decide) (by omega)
      have e7 : (256 : Nat) ^ 7 = 72057594037927936 := by decide
      have e63 : (2 : Nat) ^ 63 = 9223372036854775808 := by decide
      rw [w2 h8, show (1650549611 : Int64) = lN 1650549611 from rfl, pk_lEQ (by omega) (by decide), wq_4 h8 (fun j hj => ⟨(w1 j hj).1, (w1 j hj).2.1⟩)]
      constructor
      · rintro ⟨hn, a0, a1, a2, a3⟩
        refine ⟨hK, hn, ?_, ?_, ?_, ?_⟩
        · rw [(w1 0 (by omega)).2.2, a0]; rfl
        · rw [(w1 1 (by omega)).2.2, a1]; rfl
        · rw [(w1 2 (by omega)).2.2, a2]; rfl
        · rw [(w1 3 (by omega)).2.2, a3]; rfl
      · rintro ⟨-, hn, a0, a1, a2, a3⟩
        refine ⟨hn, ?_, ?_, ?_, ?_⟩
        · rw [(w1 0 (by omega)).2.2] at a0
          exact (nI_eq (b := 98) (by have := w1 0 (by omega); omega) (by decide)).mp a0
        · rw [(w1 1 (by omega)).2.2] at a1
          exact (nI_eq (b := 97) (by have := w1 1 (by omega); omega) (by decide)).mp a1
        · rw [(w1 2 (by omega)).2.2] at a2
          exact (nI_eq (b := 99) (by have := w1 2 (by omega); omega) (by decide)).mp a2
        · rw [(w1 3 (by omega)).2.2] at a3
          exact (nI_eq (b := 107) (by have := w1 3 (by omega); omega) (by decide)).mp a3
    · rw [w3 h8]
      constructor
      · intro z
        exact absurd z (by decide)
      · rintro ⟨-, hn, -⟩
        omega
  · rw [h.n0 hK]
    constructor
    · intro z
      exact absurd z (by decide)
    · rintro ⟨z, -⟩
      exact absurd z hK

theorem TT.w5 (h : TT x m N) {i : Nat} : pm_n m N (i, 0) = 26479 ↔ wd_t x N i 5 = true := by
  rw [← wd_t_iff]
  by_cases hK : tkK x N (EE x N i) = 1
  · obtain ⟨W, w1, w2, w3⟩ := h.nm hK
    rw [wd_5x]
    by_cases h8 : EE x N (i + 1) - tkS x N (EE x N i) < 8
    · have vl : vn W (EE x N (i + 1) - tkS x N (EE x N i)) < 256 ^ (EE x N (i + 1) - tkS x N (EE x N i)) := vn_lt _ (fun j hj => by have := w1 j hj; omega)
      have v7 : (256 : Nat) ^ (EE x N (i + 1) - tkS x N (EE x N i)) ≤ 256 ^ 7 := Nat.pow_le_pow_right (by decide) (by omega)
      have e7 : (256 : Nat) ^ 7 = 72057594037927936 := by decide
      have e63 : (2 : Nat) ^ 63 = 9223372036854775808 := by decide
      rw [w2 h8, show (26479 : Int64) = lN 26479 from rfl, pk_lEQ (by omega) (by decide), wq_5 h8 (fun j hj => ⟨(w1 j hj).1, (w1 j hj).2.1⟩)]
      constructor
      · rintro ⟨hn, a0, a1⟩
        refine ⟨hK, hn, ?_, ?_⟩
        · rw [(w1 0 (by omega)).2.2, a0]; rfl
        · rw [(w1 1 (by omega)).2.2, a1]; rfl
      · rintro ⟨-, hn, a0, a1⟩
        refine ⟨hn, ?_, ?_⟩
        · rw [(w1 0 (by omega)).2.2] at a0
          exact (nI_eq (b := 103) (by have := w1 0 (by omega); omega) (by decide)).mp a0
        · rw [(w1 1 (by omega)).2.2] at a1
          exact (nI_eq (b := 111) (by have := w1 1 (by omega); omega) (by decide)).mp a1
    · rw [w3 h8]
      constructor
      · intro z
        exact absurd z (by decide)
      · rintro ⟨-, hn, -⟩
        omega
  · rw [h.n0 hK]
    constructor
    · intro z
      exact absurd z (by decide)
    · rintro ⟨z, -⟩
      exact absurd z hK

theorem TT.w6 (h : TT x m N) {i : Nat} : pm_n m N (i, 0) = 422725643876 ↔ wd_t x N i 6 = true := by
  rw [← wd_t_iff]
  by_cases hK : tkK x N (EE x N i) = 1
  · obtain ⟨W, w1, w2, w3⟩ := h.nm hK
    rw [wd_6x]
    by_cases h8 : EE x N (i + 1) - tkS x N (EE x N i) < 8
    · have vl : vn W (EE x N (i + 1) - tkS x N (EE x N i)) < 256 ^ (EE x N (i + 1) - tkS x N (EE x N i)) := vn_lt _ (fun j hj => by have := w1 j hj; omega)
      have v7 : (256 : Nat) ^ (EE x N (i + 1) - tkS x N (EE x N i)) ≤ 256 ^ 7 := Nat.pow_le_pow_right (by decide) (by omega)
      have e7 : (256 : Nat) ^ 7 = 72057594037927936 := by decide
      have e63 : (2 : Nat) ^ 63 = 9223372036854775808 := by decide
      rw [w2 h8, show (422725643876 : Int64) = lN 422725643876 from rfl, pk_lEQ (by omega) (by decide), wq_6 h8 (fun j hj => ⟨(w1 j hj).1, (w1 j hj).2.1⟩)]
      constructor
      · rintro ⟨hn, a0, a1, a2, a3, a4⟩
        refine ⟨hK, hn, ?_, ?_, ?_, ?_, ?_⟩
        · rw [(w1 0 (by omega)).2.2, a0]; rfl
        · rw [(w1 1 (by omega)).2.2, a1]; rfl
        · rw [(w1 2 (by omega)).2.2, a2]; rfl
        · rw [(w1 3 (by omega)).2.2, a3]; rfl
        · rw [(w1 4 (by omega)).2.2, a4]; rfl
      · rintro ⟨-, hn, a0, a1, a2, a3, a4⟩
        refine ⟨hn, ?_, ?_, ?_, ?_, ?_⟩
        · rw [(w1 0 (by omega)).2.2] at a0
          exact (nI_eq (b := 98) (by have := w1 0 (by omega); omega) (by decide)).mp a0
        · rw [(w1 1 (by omega)).2.2] at a1
          exact (nI_eq (b := 108) (by have := w1 1 (by omega); omega) (by decide)).mp a1
        · rw [(w1 2 (by omega)).2.2] at a2
          exact (nI_eq (b := 105) (by have := w1 2 (by omega); omega) (by decide)).mp a2
        · rw [(w1 3 (by omega)).2.2] at a3
          exact (nI_eq (b := 110) (by have := w1 3 (by omega); omega) (by decide)).mp a3
        · rw [(w1 4 (by omega)).2.2] at a4
          exact (nI_eq (b := 100) (by have := w1 4 (by omega); omega) (by decide)).mp a4
    · rw [w3 h8]
      constructor
      · intro z
        exact absurd z (by decide)
      · rintro ⟨-, hn, -⟩
        omega
  · rw [h.n0 hK]
    constructor
    · intro z
      exact absurd z (by decide)
    · rintro ⟨z, -⟩
      exact absurd z hK

theorem kd_t_e {b : Nat → Int32} {i : Nat} : kd_t b N i = if wd_t b N i 2 = true then 1 else if wd_t b N i 3 = true then 2 else if wd_t b N i 4 = true then 3 else if wd_t b N i 5 = true then 4 else if wd_t b N i 6 = true then 5 else 0 := by
  unfold kd_t wd_k
  simp only [← wd_t_iff]
  by_cases hK : tkK b N (EE b N i) = 1
  · simp only [hK, if_true, true_and]
  · simp only [hK, if_false, false_and]
theorem TT.kd (h : TT x m N) {i : Nat} : pm_kb (pm_n m N (i, 0)) = if kd_t x N i = 0 then -1000000 else nI (kd_t x N i) := by
  rw [kd_t_e]
  have q2 := h.w2 (i := i)
  have q3 := h.w3 (i := i)
  have q4 := h.w4 (i := i)
  have q5 := h.w5 (i := i)
  have q6 := h.w6 (i := i)
  unfold pm_kb
  generalize pm_n m N (i, 0) = v at q2 q3 q4 q5 q6
  simp only [← q2, ← q3, ← q4, ← q5, ← q6]
  by_cases h2 : v = 2002872692
  · subst h2
    decide
  · by_cases h5 : v = 26479
    · subst h5
      decide
    · by_cases h3 : v = 1718579821
      · subst h3
        decide
      · by_cases h4 : v = 1650549611
        · subst h4
          decide
        · by_cases h6 : v = 422725643876
          · subst h6
            decide
          · simp only [h2, h3, h4, h5, h6, if_false, if_true]
end TT
