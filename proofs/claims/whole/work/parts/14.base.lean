/-! small words for contracts -/
def ax_b (q : Prop) [Decidable q] : Int32 := if q then 1 else 0
theorem ax_b1 {q : Prop} [Decidable q] (h : q) : ax_b q = 1 := if_pos h
theorem ax_b0 {q : Prop} [Decidable q] (h : ¬ q) : ax_b q = 0 := if_neg h
theorem ax_bne {q : Prop} [Decidable q] (h : ¬ ax_b q = 0) : q := by
  by_cases hq : q
  · exact hq
  · exact absurd (ax_b0 hq) h
theorem ax_beq {q : Prop} [Decidable q] (h : ax_b q = 0) : ¬ q := fun hq => by
  rw [ax_b1 hq] at h
  exact absurd h (by decide)
theorem ax_bcong {q r : Prop} [Decidable q] [Decidable r] (h : q ↔ r) : ax_b q = ax_b r := by
  unfold ax_b
  by_cases hq : q
  · rw [if_pos hq, if_pos (h.mp hq)]
  · rw [if_neg hq, if_neg (fun z => hq (h.mpr z))]
/-- where a Pass lies: the draft's, now, the day's, the images' -/
def ax_isP (p : Nat) : Prop := p = 4 ∨ p = 14 ∨ p = 29 ∨ p = 57 ∨ p = 67
theorem ax_isP.o {p : Nat} (h : ax_isP p) : ax_sh p = .inr (3, [some (p + 1), some (p + 2), some (p + 3), some (p + 4), some (p + 5), some (p + 6), some (p + 7), some (p + 8), some (p + 9), none, none, none]) := by
  rcases h with rfl | rfl | rfl | rfl | rfl <;> rfl
theorem ax_isP.a1 {p : Nat} (h : ax_isP p) : ax_sh (p + 1) = .inl (0, 6) := by
  rcases h with rfl | rfl | rfl | rfl | rfl <;> rfl
theorem ax_isP.a2 {p : Nat} (h : ax_isP p) : ax_sh (p + 2) = .inl (0, 7) := by
  rcases h with rfl | rfl | rfl | rfl | rfl <;> rfl
theorem ax_isP.a3 {p : Nat} (h : ax_isP p) : ax_sh (p + 3) = .inl (0, 7) := by
  rcases h with rfl | rfl | rfl | rfl | rfl <;> rfl
theorem ax_isP.a4 {p : Nat} (h : ax_isP p) : ax_sh (p + 4) = .inl (0, 7) := by
  rcases h with rfl | rfl | rfl | rfl | rfl <;> rfl
theorem ax_isP.a5 {p : Nat} (h : ax_isP p) : ax_sh (p + 5) = .inl (0, 7) := by
  rcases h with rfl | rfl | rfl | rfl | rfl <;> rfl
theorem ax_isP.a6 {p : Nat} (h : ax_isP p) : ax_sh (p + 6) = .inl (0, 7) := by
  rcases h with rfl | rfl | rfl | rfl | rfl <;> rfl
theorem ax_isP.a7 {p : Nat} (h : ax_isP p) : ax_sh (p + 7) = .inl (0, 7) := by
  rcases h with rfl | rfl | rfl | rfl | rfl <;> rfl
theorem ax_isP.a8 {p : Nat} (h : ax_isP p) : ax_sh (p + 8) = .inl (0, 7) := by
  rcases h with rfl | rfl | rfl | rfl | rfl <;> rfl
theorem ax_isP.a9 {p : Nat} (h : ax_isP p) : ax_sh (p + 9) = .inl (0, 12) := by
  rcases h with rfl | rfl | rfl | rfl | rfl <;> rfl
theorem ax_imgP {k : Nat} (h : k < 2) : ax_isP (57 + 10 * k) := by
  rcases (show k = 0 ∨ k = 1 by omega) with rfl | rfl
  · exact Or.inr (Or.inr (Or.inr (Or.inl rfl)))
  · exact Or.inr (Or.inr (Or.inr (Or.inr rfl)))
theorem ax_lt8 {P : Nat → Prop} (h0 : P 0) (h1 : P 1) (h2 : P 2) (h3 : P 3) (h4 : P 4) (h5 : P 5) (h6 : P 6) (h7 : P 7) {c : Nat} (h : c < 8) : P c := by
  match c, h with
  | 0, _ => exact h0
  | 1, _ => exact h1
  | 2, _ => exact h2
  | 3, _ => exact h3
  | 4, _ => exact h4
  | 5, _ => exact h5
  | 6, _ => exact h6
  | 7, _ => exact h7
theorem ax_rowO {c : Nat} (h : c < 8) : ax_sh (41 + 2 * c) = .inr (5, [some (42 + 2 * c), none, none, none]) := ax_lt8 (P := fun c => ax_sh (41 + 2 * c) = .inr (5, [some (42 + 2 * c), none, none, none])) rfl rfl rfl rfl rfl rfl rfl rfl h
theorem ax_rowA {c : Nat} (h : c < 8) : ax_sh (42 + 2 * c) = .inl (0, 40) := ax_lt8 (P := fun c => ax_sh (42 + 2 * c) = .inl (0, 40)) rfl rfl rfl rfl rfl rfl rfl rfl h
theorem ax_now : ax_isP 14 := Or.inr (Or.inl rfl)
theorem ax_day : ax_isP 29 := Or.inr (Or.inr (Or.inl rfl))
theorem ax_dra : ax_isP 4 := Or.inl rfl
