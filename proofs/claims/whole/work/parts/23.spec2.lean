theorem cp_ne {σ : ax_Z} {k0 k1 s d n a : Nat} (h : a ≠ k1) : ax_cp σ k0 k1 s d n a = σ a := if_neg h
theorem cp_eq {σ : ax_Z} {k0 k1 n b : Nat} (h : b < n) : ax_cp σ k0 k1 0 0 n k1 b = σ k0 b := by
  simp only [ax_cp, if_true, va_cpy]
  rw [if_pos ⟨Nat.zero_le _, by omega⟩, Nat.zero_add, Nat.sub_zero]
theorem cp_out {σ : ax_Z} {k0 k1 s d n b : Nat} (h : b < d ∨ d + n ≤ b) : ax_cp σ k0 k1 s d n k1 b = σ k1 b := by
  simp only [ax_cp, if_true, va_cpy]
  rw [if_neg (by omega)]
theorem cp_in {σ : ax_Z} {k0 k1 s d n b : Nat} (h : d ≤ b) (h2 : b < d + n) : ax_cp σ k0 k1 s d n k1 b = σ k0 (s + (b - d)) := by
  simp only [ax_cp, if_true, va_cpy]
  rw [if_pos ⟨h, h2⟩]
theorem up_ne {σ : ax_Z} {k j a : Nat} {v : Int32} (h : a ≠ k) : ax_up σ k j v a = σ a := ax_row_ne h
theorem up_o {σ : ax_Z} {k j b : Nat} {v : Int32} (h : b ≠ j) : ax_up σ k j v k b = σ k b := by simp [ax_up, h]
theorem up_s {σ : ax_Z} {k j : Nat} {v : Int32} : ax_up σ k j v k j = v := by simp [ax_up]
theorem fi_ne {σ : ax_Z} {k n a : Nat} {v : Int32} (h : a ≠ k) : ax_fill σ k n v a = σ a := by
  funext b
  simp [ax_fill, h]
theorem fi_in {σ : ax_Z} {k n b : Nat} {v : Int32} (h : b < n) : ax_fill σ k n v k b = v := by simp [ax_fill, h]
theorem fi_o {σ : ax_Z} {k n b : Nat} {v : Int32} (h : ¬ b < n) : ax_fill σ k n v k b = σ k b := by simp [ax_fill, h]
theorem go_ne {σ : ax_Z} {k n a : Nat} {tr : Nat → Bool} {v : Int32} (h : a ≠ k) : hs_gone σ k tr v n a = σ a := by
  funext b
  simp [hs_gone, h]
section AXR3
variable {x : ax_T} {Y : ax_Y} {ad : Nat → Nat} {i : ax_I} {h mc ms kc ks pc : Nat} {Q : State → Prop} {σ σ' : ax_Z} {L : List (Option Value)} {st : List Value} {idx : Nat}
theorem ax_copye (C : ax_C x Y i h mc ms) {k0 k1 n0 n1 s d n : Nat} {sv dv nv : Int32} (es : sv = nI s) (ed : dv = nI d) (en : nv = nI n) (hh : 1 ≤ h) (lk : Cond.methodLink i.1.cls idx arraycopyName ∈ ax_tb) (hd : decode i.2.1 pc = .ok (.invokestatic idx, 3)) (hs0 : ax_sh k0 = .inl (0, n0)) (hs1 : ax_sh k1 = .inl (0, n1)) (l0 : s + n ≤ n0) (l1 : d + n ≤ n1) (m0 : n0 < 2000) (m1 : n1 < 2000) (hw : (st.map fun v => v.category).sum ≤ 8) (hnL : L.length = i.2.2.1)
    (kk : ax_S x Y ad kc ks Q (ax_cp σ k0 k1 s d n) (pc + 3) L st) : ax_S x Y ad kc ks Q σ pc L (.int nv :: .int dv :: .ref (ad k1) :: .int sv :: .ref (ad k0) :: st) := by
  subst es; subst ed; subst en
  exact ax_copy C hh lk hd hs0 hs1 l0 l1 m0 m1 hw hnL kk
end AXR3
def hp_bc (σ : ax_Z) (p q : Nat) : ax_Z :=
  ax_up (ax_up (ax_up (ax_cp (ax_cp (ax_cp (ax_cp (ax_cp (ax_cp (ax_cp (ax_cp (ax_cp σ (q + 1) (p + 1) 0 0 6) (q + 2) (p + 2) 0 0 7) (q + 3) (p + 3) 0 0 7) (q + 4) (p + 4) 0 0 7) (q + 5) (p + 5) 0 0 7) (q + 6) (p + 6) 0 0 7) (q + 7) (p + 7) 0 0 7) (q + 8) (p + 8) 0 0 7) (q + 9) (p + 9) 0 0 12) p 9 (σ q 9)) p 10 (σ q 10)) p 11 (σ q 11)
def hp_an (σ : ax_Z) (p : Nat) : ax_Z := ax_up (ax_fill (ax_fill (ax_fill σ (p + 6) 7 (-1000000)) (p + 7) 7 0) (p + 9) 12 (-1)) p 11 0
/-- the day's first k hours -/
def hp_dn (σ : ax_Z) (p n : Nat) : Nat → ax_Z
  | 0 => hp_an σ p
  | k + 1 => hp_go (hp_dn σ p n k) p n k
theorem hp_bc_ne {σ : ax_Z} {p q a : Nat} (h : a < p ∨ p + 10 ≤ a) : hp_bc σ p q a = σ a := by
  unfold hp_bc
  simp (disch := omega) only [up_ne, cp_ne]
theorem hp_an_ne {σ : ax_Z} {p a : Nat} (h : a < p ∨ p + 10 ≤ a) : hp_an σ p a = σ a := by
  unfold hp_an
  simp (disch := omega) only [up_ne, fi_ne]
theorem hp_go_ne {σ : ax_Z} {p n k a : Nat} (h : a < p ∨ p + 10 ≤ a) : hp_go σ p n k a = σ a := by
  unfold hp_go
  cases hp_f σ p n <;> simp (disch := omega) only [up_ne, go_ne]
theorem hp_dn_ne {σ : ax_Z} {p n a : Nat} (k : Nat) (h : a < p ∨ p + 10 ≤ a) : hp_dn σ p n k a = σ a := by
  induction k with
  | zero => exact hp_an_ne h
  | succ k ih => rw [hp_dn, hp_go_ne h, ih]
/-- toll, kind, come, haste, patience, times stay over an hour -/
theorem hp_go_k {σ : ax_Z} {p n k j : Nat} (h : j = 1 ∨ j = 2 ∨ j = 3 ∨ j = 4 ∨ j = 5 ∨ j = 8) : hp_go σ p n k (p + j) = σ (p + j) := by
  unfold hp_go
  cases hp_f σ p n <;> simp (disch := omega) only [up_ne, go_ne]
theorem hp_dn_k {σ : ax_Z} {p n j : Nat} (k : Nat) (h : j = 1 ∨ j = 2 ∨ j = 3 ∨ j = 4 ∨ j = 5 ∨ j = 8) : hp_dn σ p n k (p + j) = σ (p + j) := by
  induction k with
  | zero =>
    show hp_an σ p (p + j) = _
    unfold hp_an
    simp (disch := omega) only [up_ne, fi_ne]
  | succ k ih => rw [hp_dn, hp_go_k h, ih]
theorem hp_go_o {σ : ax_Z} {p n k b : Nat} (h : b ≠ 11) : hp_go σ p n k p b = σ p b := by
  unfold hp_go
  cases hp_f σ p n <;> simp (disch := omega) only [up_o, up_ne, go_ne]
theorem hp_dn_o {σ : ax_Z} {p n b : Nat} (k : Nat) (h : b ≠ 11) : hp_dn σ p n k p b = σ p b := by
  induction k with
  | zero =>
    show hp_an σ p p b = _
    unfold hp_an
    simp (disch := omega) only [up_o, fi_ne]
  | succ k ih => rw [hp_dn, hp_go_o h, ih]
theorem hp_go_h {σ : ax_Z} {p n k : Nat} : hp_go σ p n k p 11 = nI (k + 1) := by
  unfold hp_go
  cases hp_f σ p n <;> simp only [up_s]
theorem hp_dn_h {σ : ax_Z} {p n : Nat} (k : Nat) : hp_dn σ p n k p 11 = nI k := by
  cases k with
  | zero =>
    show hp_an σ p p 11 = _
    unfold hp_an
    rw [up_s]
    rfl
  | succ k => rw [hp_dn, hp_go_h]
/-- who has gone -/
def hp_gn (σ : ax_Z) (p : Nat) (c : Nat) : Bool := decide (¬ σ (p + 6) c = -1000000)
theorem nI_none {k : Nat} (h : k < 100) : ¬ nI k = -1000000 := by
  intro e
  have h1 : (nI k).toInt = (-1000000 : Int32).toInt := by rw [e]
  rw [nI_toInt (by omega)] at h1
  have h2 : (-1000000 : Int32).toInt = -1000000 := by decide
  omega
theorem hp_go_w {σ : ax_Z} {p n k c : Nat} : hp_go σ p n k (p + 6) c = match hp_f σ p n with
    | none => σ (p + 6) c
    | some _ => if c < n ∧ hp_tr σ p n c = true then nI k else σ (p + 6) c := by
  unfold hp_go
  cases hp_f σ p n with
  | none => simp (disch := omega) only [up_ne]
  | some f => simp [hs_gone, ax_up]
theorem hp_go_gn {σ : ax_Z} {p n k c : Nat} (hk : k < 100) (hc : c < n) : hp_gn (hp_go σ p n k) p c = (hp_gn σ p c || match hp_f σ p n with
    | none => false
    | some _ => hp_tr σ p n c) := by
  unfold hp_gn
  rw [hp_go_w]
  split
  · simp
  · by_cases ht : hp_tr σ p n c = true
    · simp [hc, ht, nI_none hk]
    · simp [ht]
/-- nobody stands who has gone -/
theorem hp_st_gn {σ : ax_Z} {p c : Nat} (h : hp_gn σ p c = true) : hp_st σ p c = false := by
  simp only [hp_gn, decide_eq_true_eq] at h
  simp [hs_st, h]
theorem hp_all_none {σ : ax_Z} {p n : Nat} (h : ∀ c, c < n → hp_gn σ p c = true) : hp_f σ p n = none := by
  refine hs_f_none.mpr (fun c hc => ?_)
  have := hp_st_gn (h c hc)
  show (hs_st _ _ _ c && _) = false
  rw [show hs_st (σ (p + 3)) (σ (p + 6)) (σ p 11) c = false from this]
  rfl
theorem hp_go_done {σ : ax_Z} {p n k : Nat} (h : ∀ c, c < n → hp_gn σ p c = true) : hp_go σ p n k = ax_up σ p 11 (nI (k + 1)) := by
  unfold hp_go
  rw [hp_all_none h]
theorem up_up {σ : ax_Z} {k j : Nat} {v w : Int32} : ax_up (ax_up σ k j v) k j w = ax_up σ k j w := by
  funext a b
  unfold ax_up
  split <;> simp_all
theorem up_id {σ : ax_Z} {k j : Nat} {v : Int32} (h : σ k j = v) : ax_up σ k j v = σ := by
  funext a b
  unfold ax_up
  split
  · next e => rw [e.1, e.2, h]
  · rfl
theorem hp_dn_done {σ : ax_Z} {p n : Nat} (k m : Nat) (h : ∀ c, c < n → hp_gn (hp_dn σ p n k) p c = true) : hp_dn σ p n (k + m) = ax_up (hp_dn σ p n k) p 11 (nI (k + m)) := by
  induction m with
  | zero => rw [Nat.add_zero, up_id (hp_dn_h k)]
  | succ m ih =>
    show hp_go (hp_dn σ p n (k + m)) p n (k + m) = _
    have hg : ∀ c, c < n → hp_gn (hp_dn σ p n (k + m)) p c = true := by
      intro c hc
      rw [ih]
      have := h c hc
      unfold hp_gn at this ⊢
      rw [up_ne (by omega)]
      exact this
    rw [hp_go_done hg, ih, up_up]
    rfl
/-- what the k greatest shares of a train of n are together -/
def hs_gs (T : Int32) (n k : Nat) : Int32 := nI k * (T / nI n) + (if T - T / nI n * nI n < nI k then T - T / nI n * nI n else nI k)
def hs_all (f : Nat → Bool) : Nat → Bool
  | 0 => true
  | n + 1 => hs_all f n && f n
theorem hs_all_f {f : Nat → Bool} {k n : Nat} (hk : k < n) (h : f k = false) : hs_all f n = false := by
  induction n with
  | zero => omega
  | succ n ih =>
    unfold hs_all
    by_cases e : k = n
    · subst e; simp [h]
    · simp [ih (by omega)]
def hs_hold (toll : Nat → Int32) (n k : Nat) : Bool := decide (k = 0) || decide (hs_gs (hs_toll toll n) n k ≤ hs_toll toll k)
def hs_cs (toll : Nat → Int32) : Nat → Nat
  | 0 => 1
  | m + 1 => if m = 0 then 1 else if hs_toll toll (m + 1) * nI (hs_cs toll m) < hs_toll toll (hs_cs toll m) * nI (m + 1) then m + 1 else hs_cs toll m
theorem hs_cs_in (toll : Nat → Int32) (m : Nat) : 1 ≤ hs_cs toll m ∧ hs_cs toll m ≤ max 1 m := by
  induction m with
  | zero => exact ⟨Nat.le_refl 1, Nat.le_max_left 1 0⟩
  | succ m ih =>
    unfold hs_cs
    split
    · omega
    · split <;> omega
def hs_sum (f : Nat → Int32) : Nat → Int32
  | 0 => 0
  | n + 1 => hs_sum f n + f n
/-- the latest hour is undone: those that went in it stand again -/
def hp_wb (σ : ax_Z) (p h : Nat) (c : Nat) : ax_Z := fun a b => if a = p + 6 ∧ b < c ∧ σ (p + 6) b = nI h then -1000000 else if a = p + 7 ∧ b < c ∧ σ (p + 6) b = nI h then 0 else σ a b
def hp_bk (σ : ax_Z) (p n h : Nat) : ax_Z := hp_wb (ax_up (ax_up σ p 11 (nI h)) (p + 9) h (-1)) p h n
