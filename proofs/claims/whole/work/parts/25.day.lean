/-! a day, told over rows of numbers alone -/
/-- how many carts; kind, come, patience, times first, toll -/
abbrev dC : Type := Nat × (Nat → Int32) × (Nat → Int32) × (Nat → Int32) × (Nat → Int32) × (Nat → Int32)
/-- went, paid, payer -/
abbrev dT : Type := (Nat → Int32) × (Nat → Int32) × (Nat → Int32)
abbrev dC.kind (K : dC) := K.2.1
abbrev dC.come (K : dC) := K.2.2.1
abbrev dC.pat (K : dC) := K.2.2.2.1
abbrev dC.tm (K : dC) := K.2.2.2.2.1
abbrev dC.toll (K : dC) := K.2.2.2.2.2
abbrev dd_rd (K : dC) (w : Nat → Int32) (k : Nat) : Nat → Bool := hs_rd (dC.kind K) (dC.come K) (dC.pat K) w (nI k) K.1
abbrev dd_tr (K : dC) (w : Nat → Int32) (k : Nat) : Nat → Bool := hs_tr (dC.kind K) (dC.come K) (dC.pat K) w (nI k) K.1
abbrev dd_f (K : dC) (w : Nat → Int32) (k : Nat) : Option Nat := hs_f (dd_rd K w k) (hs_ah (dC.kind K) (dC.come K) (dC.tm K)) K.1
def dd_step (K : dC) (k : Nat) (s : dT) : dT := match dd_f K s.1 k with
  | none => s
  | some f => (fun c => if c < K.1 ∧ dd_tr K s.1 k c = true then nI k else s.1 c, upd s.2.1 f (hs_toll (dC.toll K) (ms_c (dd_tr K s.1 k) K.1)), upd s.2.2 k (nI f))
def dd (K : dC) : Nat → dT
  | 0 => (fun _ => -1000000, fun _ => 0, fun _ => -1)
  | k + 1 => dd_step K k (dd K k)
/-- two tellings agree where it matters -/
def dC.eq (K K' : dC) : Prop := K.1 = K'.1 ∧ (∀ c, c < K.1 → dC.kind K c = dC.kind K' c ∧ dC.come K c = dC.come K' c ∧ dC.pat K c = dC.pat K' c ∧ dC.tm K c = dC.tm K' c) ∧ ∀ t, t < 6 → dC.toll K t = dC.toll K' t
theorem hs_st_c {come come' went went' : Nat → Int32} {hr : Int32} {c : Nat} (h1 : come c = come' c) (h2 : went c = went' c) : hs_st come went hr c = hs_st come' went' hr c := by
  unfold hs_st
  rw [h1, h2]
theorem hs_r1_c {kind kind' come come' pat pat' : Nat → Int32} {hr : Int32} {en : Bool} {c : Nat} (h0 : kind c = kind' c) (h1 : come c = come' c) (h2 : pat c = pat' c) : hs_r1 kind come pat hr en c = hs_r1 kind' come' pat' hr en c := by
  unfold hs_r1
  rw [h0, h1, h2]
theorem hs_rd_c {kind kind' come come' pat pat' went went' : Nat → Int32} {hr : Int32} {n : Nat} (h : ∀ c, c < n → kind c = kind' c ∧ come c = come' c ∧ pat c = pat' c ∧ went c = went' c) : ∀ c, c < n → hs_rd kind come pat went hr n c = hs_rd kind' come' pat' went' hr n c := by
  intro c hc
  obtain ⟨q1, q2, q3, q4⟩ := h c hc
  unfold hs_rd
  rw [hs_st_c q2 q4, hs_r1_c q1 q2 q3, ms_c_congr (fun d hd => hs_st_c (h d hd).2.1 (h d hd).2.2.2)]
theorem hs_tr_c {kind kind' come come' pat pat' went went' : Nat → Int32} {hr : Int32} {n : Nat} (h : ∀ c, c < n → kind c = kind' c ∧ come c = come' c ∧ pat c = pat' c ∧ went c = went' c) : ∀ c, c < n → hs_tr kind come pat went hr n c = hs_tr kind' come' pat' went' hr n c := by
  intro c hc
  obtain ⟨q1, q2, q3, q4⟩ := h c hc
  unfold hs_tr hs_fo
  rw [hs_rd_c h c hc, q1, hs_st_c q2 q4]
theorem hs_f_c {rd rd' : Nat → Bool} {ah ah' : Nat → Nat → Bool} {n : Nat} (h1 : ∀ c, c < n → rd c = rd' c) (h2 : ∀ c d, c < n → d < n → ah c d = ah' c d) : hs_f rd ah n = hs_f rd' ah' n := by
  induction n with
  | zero => rfl
  | succ n ih =>
    unfold hs_f
    rw [ih (fun c hc => h1 c (by omega)) (fun c d hc hd => h2 c d (by omega) (by omega)), h1 n (by omega)]
    cases hf : hs_f rd' ah' n with
    | none => rfl
    | some f => simp only [h2 n f (by omega) (by have := (hs_f_lt hf).1; omega)]
theorem hs_toll_c {toll toll' : Nat → Int32} {k : Nat} (h : ∀ t, t < 6 → toll t = toll' t) : hs_toll toll k = hs_toll toll' k := by
  unfold hs_toll
  split
  · rfl
  · exact h _ (by omega)
theorem dd_f_c {K K' : dC} (hK : dC.eq K K') {w w' : Nat → Int32} (hw : ∀ c, c < K.1 → w c = w' c) (k : Nat) : dd_f K w k = dd_f K' w' k ∧ ∀ c, c < K.1 → dd_tr K w k c = dd_tr K' w' k c := by
  obtain ⟨h0, h1, h2⟩ := hK
  have hall : ∀ c, c < K.1 → dC.kind K c = dC.kind K' c ∧ dC.come K c = dC.come K' c ∧ dC.pat K c = dC.pat K' c ∧ w c = w' c := fun c hc => ⟨(h1 c hc).1, (h1 c hc).2.1, (h1 c hc).2.2.1, hw c hc⟩
  constructor
  · show hs_f _ _ K.1 = hs_f _ _ K'.1
    rw [← h0]
    refine hs_f_c (fun c hc => ?_) (fun c d hc hd => ?_)
    · have := hs_rd_c (hr := nI k) hall c hc
      show hs_rd _ _ _ _ _ K.1 c = hs_rd _ _ _ _ _ K'.1 c
      rw [← h0]
      exact this
    · unfold hs_ah
      rw [(h1 c hc).1, (h1 c hc).2.1, (h1 c hc).2.2.2, (h1 d hd).1, (h1 d hd).2.1, (h1 d hd).2.2.2]
  · intro c hc
    have := hs_tr_c (hr := nI k) hall c hc
    show hs_tr _ _ _ _ _ K.1 c = hs_tr _ _ _ _ _ K'.1 c
    rw [← h0]
    exact this
/-- two states of a day agree -/
def dT.eq (n : Nat) (s s' : dT) : Prop := (∀ c, c < n → s.1 c = s'.1 c ∧ s.2.1 c = s'.2.1 c) ∧ ∀ h, h < 12 → s.2.2 h = s'.2.2 h
theorem dd_step_c {K K' : dC} (hK : dC.eq K K') {s s' : dT} (hs : dT.eq K.1 s s') (k : Nat) : dT.eq K.1 (dd_step K k s) (dd_step K' k s') := by
  obtain ⟨e1, e2⟩ := dd_f_c hK (fun c hc => (hs.1 c hc).1) k
  unfold dd_step
  rw [← e1]
  cases dd_f K s.1 k with
  | none => exact hs
  | some f =>
    refine ⟨fun c hc => ⟨?_, ?_⟩, fun h hh => ?_⟩
    · show (if c < K.1 ∧ dd_tr K s.1 k c = true then nI k else s.1 c) = (if c < K'.1 ∧ dd_tr K' s'.1 k c = true then nI k else s'.1 c)
      rw [e2 c hc, ← hK.1, (hs.1 c hc).1]
    · show upd s.2.1 f _ c = upd s'.2.1 f _ c
      unfold upd
      rw [(hs.1 c hc).2, ms_c_congr e2, hK.1, hs_toll_c hK.2.2]
    · show upd s.2.2 k (nI f) h = upd s'.2.2 k (nI f) h
      unfold upd
      rw [hs.2 h hh]
theorem dd_c {K K' : dC} (hK : dC.eq K K') (k : Nat) : dT.eq K.1 (dd K k) (dd K' k) := by
  induction k with
  | zero => exact ⟨fun _ _ => ⟨rfl, rfl⟩, fun _ _ => rfl⟩
  | succ k ih => exact dd_step_c hK ih k
/-- a pass's telling -/
abbrev hp_K (σ : ax_Z) (p n : Nat) : dC := (n, σ (p + 2), σ (p + 3), σ (p + 5), σ (p + 8), σ (p + 1))
theorem hp_K_dn {σ : ax_Z} {p n k : Nat} : hp_K (hp_dn σ p n k) p n = hp_K σ p n := by
  unfold hp_K
  rw [hp_dn_k k (by omega), hp_dn_k k (by omega), hp_dn_k k (by omega), hp_dn_k k (by omega), hp_dn_k k (by omega)]
/-- what a pass's day holds -/
theorem hp_dn_dd {σ : ax_Z} {p n : Nat} (h7 : n ≤ 7) (k : Nat) (hk : k ≤ 12) : (∀ c, c < 7 → hp_dn σ p n k (p + 6) c = (dd (hp_K σ p n) k).1 c ∧ hp_dn σ p n k (p + 7) c = (dd (hp_K σ p n) k).2.1 c) ∧ ∀ h, h < 12 → hp_dn σ p n k (p + 9) h = (dd (hp_K σ p n) k).2.2 h := by
  induction k with
  | zero =>
    refine ⟨fun c hc => ⟨?_, ?_⟩, fun h hh => ?_⟩
    · show hp_an σ p (p + 6) c = _
      unfold hp_an
      simp (disch := omega) only [up_ne, fi_ne, fi_in]
      rfl
    · show hp_an σ p (p + 7) c = _
      unfold hp_an
      simp (disch := omega) only [up_ne, fi_ne, fi_in]
      rfl
    · show hp_an σ p (p + 9) h = _
      unfold hp_an
      simp (disch := omega) only [up_ne, fi_ne, fi_in]
      rfl
  | succ k ih =>
    obtain ⟨i1, i2⟩ := ih (by omega)
    have hf : hp_f (hp_dn σ p n k) p n = dd_f (hp_K σ p n) (dd (hp_K σ p n) k).1 k ∧ ∀ c, c < n → hp_tr (hp_dn σ p n k) p n c = dd_tr (hp_K σ p n) (dd (hp_K σ p n) k).1 k c := by
      have q := dd_f_c (K := hp_K (hp_dn σ p n k) p n) (K' := hp_K σ p n) (by rw [hp_K_dn]; exact ⟨rfl, fun _ _ => ⟨rfl, rfl, rfl, rfl⟩, fun _ _ => rfl⟩) (w := hp_dn σ p n k (p + 6)) (w' := (dd (hp_K σ p n) k).1) (fun c hc => (i1 c (Nat.lt_of_lt_of_le hc h7)).1) k
      refine ⟨?_, ?_⟩
      · refine Eq.trans ?_ q.1
        show hs_f (hs_rd _ _ _ _ (hp_dn σ p n k p 11) n) _ n = hs_f (hs_rd _ _ _ _ (nI k) n) _ n
        rw [hp_dn_h k]
      · intro c hc
        refine Eq.trans ?_ (q.2 c hc)
        show hs_tr _ _ _ _ (hp_dn σ p n k p 11) n c = hs_tr _ _ _ _ (nI k) n c
        rw [hp_dn_h k]
    obtain ⟨f1, f2⟩ := hf
    show _ ∧ _
    rw [show hp_dn σ p n (k + 1) = hp_go (hp_dn σ p n k) p n k from rfl, show dd (hp_K σ p n) (k + 1) = dd_step (hp_K σ p n) k (dd (hp_K σ p n) k) from rfl]
    unfold hp_go dd_step
    rw [f1]
    cases dd_f (hp_K σ p n) (dd (hp_K σ p n) k).1 k with
    | none =>
      refine ⟨fun c hc => ?_, fun h hh => ?_⟩
      · simp (disch := omega) only [up_ne]
        exact i1 c hc
      · simp (disch := omega) only [up_ne]
        exact i2 h hh
    | some f =>
      refine ⟨fun c hc => ⟨?_, ?_⟩, fun h hh => ?_⟩
      · simp (disch := omega) only [up_ne]
        unfold hs_gone
        by_cases hn : c < n
        · rw [f2 c hn]
          simp (disch := omega) only [up_ne, true_and, (i1 c hc).1]
        · simp (disch := omega) only [up_ne, true_and, (i1 c hc).1, hn, false_and, if_false]
      · simp (disch := omega) only [up_ne, go_ne]
        by_cases e : c = f
        · subst e
          rw [up_s, pk_us, ms_c_congr f2]
          show hs_toll (hp_dn σ p n k (p + 1)) _ = _
          rw [hp_dn_k k (by omega)]
        · rw [up_o e, up_ne (by omega), pk_un e]
          exact (i1 c hc).2
      · simp (disch := omega) only [up_ne, go_ne]
        by_cases e : h = k
        · subst e
          rw [up_s, pk_us]
        · rw [up_o e, pk_un e]
          exact i2 h hh
abbrev DW (K : dC) (c : Nat) : Int32 := (dd K 12).1 c
abbrev DP (K : dC) (c : Nat) : Int32 := (dd K 12).2.1 c
abbrev DY (K : dC) (h : Nat) : Int32 := (dd K 12).2.2 h
theorem hp_dy_w {σ : ax_Z} {p n c : Nat} (h7 : n ≤ 7) (hc : c < 7) : hp_dy σ p n (p + 6) c = DW (hp_K σ p n) c := by
  unfold hp_dy
  rw [up_ne (by omega)]
  exact ((hp_dn_dd h7 12 (Nat.le_refl 12)).1 c hc).1
theorem hp_dy_p {σ : ax_Z} {p n c : Nat} (h7 : n ≤ 7) (hc : c < 7) : hp_dy σ p n (p + 7) c = DP (hp_K σ p n) c := by
  unfold hp_dy
  rw [up_ne (by omega)]
  exact ((hp_dn_dd h7 12 (Nat.le_refl 12)).1 c hc).2
theorem hp_dy_y {σ : ax_Z} {p n h : Nat} (h7 : n ≤ 7) (hh : h < 12) : hp_dy σ p n (p + 9) h = DY (hp_K σ p n) h := by
  unfold hp_dy
  rw [up_ne (by omega)]
  exact (hp_dn_dd h7 12 (Nat.le_refl 12)).2 h hh
theorem hp_dy_ne {σ : ax_Z} {p n a : Nat} (h : a < p ∨ p + 10 ≤ a) : hp_dy σ p n a = σ a := by
  unfold hp_dy
  rw [up_ne (by omega), hp_dn_ne 12 h]
theorem hp_dy_k {σ : ax_Z} {p n j : Nat} (h : j = 1 ∨ j = 2 ∨ j = 3 ∨ j = 4 ∨ j = 5 ∨ j = 8) : hp_dy σ p n (p + j) = σ (p + j) := by
  unfold hp_dy
  rw [up_ne (by omega), hp_dn_k 12 h]
theorem hp_dy_o {σ : ax_Z} {p n b : Nat} (h : b ≠ 11) : hp_dy σ p n p b = σ p b := by
  unfold hp_dy
  rw [up_o h, hp_dn_o 12 h]
theorem DW_c {K K' : dC} (hK : dC.eq K K') {c : Nat} (hc : c < K.1) : DW K c = DW K' c := ((dd_c hK 12).1 c hc).1
theorem DP_c {K K' : dC} (hK : dC.eq K K') {c : Nat} (hc : c < K.1) : DP K c = DP K' c := ((dd_c hK 12).1 c hc).2
theorem DY_c {K K' : dC} (hK : dC.eq K K') {h : Nat} (hh : h < 12) : DY K h = DY K' h := (dd_c hK 12).2 h hh
