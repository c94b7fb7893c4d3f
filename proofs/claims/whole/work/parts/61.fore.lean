/-! what is foretold: the same numbers on both sides -/
def dK_ok (K : dC) : Prop := K.1 ≤ 7 ∧ (∀ c, c < K.1 → ∃ a : Nat, a ≤ 11 ∧ dC.come K c = nI a) ∧ ∀ t, t < 6 → ∃ T : Nat, T ≤ 99 ∧ dC.toll K t = nI T
theorem hs_toll_99 {toll : Nat → Int32} (h : ∀ t, t < 6 → ∃ T : Nat, T ≤ 99 ∧ toll t = nI T) (k : Nat) : ∃ T : Nat, T ≤ 99 ∧ hs_toll toll k = nI T := by
  unfold hs_toll
  split
  · exact ⟨0, by decide, rfl⟩
  · exact h _ (by omega)
/-- went: not yet, or in an hour from come on; paid: a toll -/
theorem dd_bd {K : dC} (hK : dK_ok K) : ∀ k, k ≤ 12 → ∀ c, c < K.1 → ((dd K k).1 c = -1000000 ∨ ∃ w : Nat, w < k ∧ (dd K k).1 c = nI w ∧ dC.come K c ≤ nI w) ∧ ∃ P : Nat, P ≤ 99 ∧ (dd K k).2.1 c = nI P := by
  intro k
  induction k with
  | zero => intro _ c _; exact ⟨Or.inl rfl, 0, by decide, rfl⟩
  | succ k ih =>
    intro hk c hc
    obtain ⟨i1, P, i2, i3⟩ := ih (by omega) c hc
    have i1' : (dd K k).1 c = -1000000 ∨ ∃ w : Nat, w < k + 1 ∧ (dd K k).1 c = nI w ∧ dC.come K c ≤ nI w := by
      rcases i1 with e | ⟨w, w1, w2⟩
      · exact Or.inl e
      · exact Or.inr ⟨w, by omega, w2⟩
    unfold dd dd_step
    cases hf : dd_f K (dd K k).1 k with
    | none => exact ⟨i1', P, i2, i3⟩
    | some f =>
      refine ⟨?_, ?_⟩
      · show (if c < K.1 ∧ dd_tr K (dd K k).1 k c = true then nI k else (dd K k).1 c) = -1000000 ∨ ∃ w : Nat, w < k + 1 ∧ (if c < K.1 ∧ dd_tr K (dd K k).1 k c = true then nI k else (dd K k).1 c) = nI w ∧ dC.come K c ≤ nI w
        by_cases ht : c < K.1 ∧ dd_tr K (dd K k).1 k c = true
        · rw [if_pos ht]
          refine Or.inr ⟨k, by omega, rfl, ?_⟩
          have t := ht.2
          unfold dd_tr hs_tr hs_rd hs_st at t
          simp only [Bool.or_eq_true, Bool.and_eq_true, decide_eq_true_eq] at t
          rcases t with t | t
          · exact t.1.1
          · exact t.2.1
        · rw [if_neg ht]
          exact i1'
      · show ∃ P : Nat, P ≤ 99 ∧ upd (dd K k).2.1 f _ c = nI P
        by_cases e : c = f
        · subst e
          rw [pk_us]
          exact hs_toll_99 hK.2.2 _
        · rw [pk_un e]
          exact ⟨P, i2, i3⟩
/-- behind a day every cart has gone -/
theorem dd_went {K : dC} (hK : dK_ok K) {c : Nat} (hc : c < K.1) : ¬ DW K c = -1000000 := by
  show ¬ (dd_step K 11 (dd K 11)).1 c = -1000000
  unfold dd_step
  by_cases hw : (dd K 11).1 c = -1000000
  · obtain ⟨a, a1, a2⟩ := hK.2.1 c hc
    have hst : hs_st (dC.come K) (dd K 11).1 (nI 11) c = true := by
      unfold hs_st
      rw [a2, hw, decide_eq_true (nI_le a1 (by decide)), decide_eq_true rfl]
      rfl
    have hrd : dd_rd K (dd K 11).1 11 c = true := by
      show hs_rd _ _ _ _ _ _ _ = true
      unfold hs_rd
      rw [hst, show decide (nI 11 = 11) = true from by decide]
      rfl
    cases hf : dd_f K (dd K 11).1 11 with
    | none =>
      have := hs_f_none.mp hf c hc
      rw [hrd] at this
      cases this
    | some f =>
      show ¬ (if c < K.1 ∧ dd_tr K (dd K 11).1 11 c = true then nI 11 else (dd K 11).1 c) = -1000000
      rw [if_pos ⟨hc, by
        show hs_tr _ _ _ _ _ _ _ = true
        unfold hs_tr
        rw [show hs_rd (dC.kind K) (dC.come K) (dC.pat K) (dd K 11).1 (nI 11) K.1 c = true from hrd]
        rfl⟩]
      decide
  · cases hf : dd_f K (dd K 11).1 11 with
    | none => exact hw
    | some f =>
      show ¬ (if c < K.1 ∧ dd_tr K (dd K 11).1 11 c = true then nI 11 else (dd K 11).1 c) = -1000000
      by_cases ht : c < K.1 ∧ dd_tr K (dd K 11).1 11 c = true
      · rw [if_pos ht]
        decide
      · rw [if_neg ht]
        exact hw
theorem dd_x_e {K : dC} (hK : dK_ok K) {haste : Nat → Int32} {c : Nat} (hc : c < K.1) : dd_x K haste c = haste c * (DW K c - dC.come K c) + DP K c := if_neg (dd_went hK hc)
/-- costs are small -/
theorem dd_x_lt {K : dC} (hK : dK_ok K) {haste : Nat → Int32} {c H : Nat} (hc : c < K.1) (hh : haste c = nI H) (h20 : H ≤ 20) : dd_x K haste c < 1000000 := by
  rw [dd_x_e hK hc]
  obtain ⟨b1, P, b2, b3⟩ := dd_bd hK 12 (by decide) c hc
  obtain ⟨a, a1, a2⟩ := hK.2.1 c hc
  rcases b1 with e | ⟨w, w1, w2, w3⟩
  · exact absurd e (dd_went hK hc)
  · rw [a2] at w3
    have haw : a ≤ w := (nI_leI (by omega) (by omega)).mp w3
    show haste c * ((dd K 12).1 c - dC.come K c) + (dd K 12).2.1 c < 1000000
    rw [hh, w2, a2, b3, pk_sub haw, pk_mul, nI_add]
    have hm : H * (w - a) ≤ 20 * 11 := Nat.mul_le_mul h20 (by omega)
    exact nI_lt (b := 1000000) (by omega) (by decide)
theorem tb_K_ok {K : dC} (h : dK_ok K) {c : Nat} {v : Int32} : dK_ok (tb_K K c v) := h
theorem rd_K_ok {K : dC} (h : dK_ok K) {haste : Nat → Int32} (c : Nat) : dK_ok (rd_K haste K c) ∧ (rd_K haste K c).1 = K.1 := by
  induction c with
  | zero => exact ⟨h, rfl⟩
  | succ c ih => exact ⟨tb_K_ok ih.1, ih.2⟩
theorem rr_K_ok {K : dC} (h : dK_ok K) {haste : Nat → Int32} (r : Nat) : dK_ok (rr_K haste K r) ∧ (rr_K haste K r).1 = K.1 := by
  induction r with
  | zero => exact ⟨h, rfl⟩
  | succ r ih =>
    have := rd_K_ok ih.1 (haste := haste) K.1
    exact ⟨this.1, this.2.trans ih.2⟩
/-- the best so far -/
theorem bk_1 {cost : Nat → Int32} (h0 : cost 0 < 1000000) : bk_f cost 1 = (0, cost 0) := by
  show (if cost 0 < (1000000 : Int32) then _ else _) = _
  rw [if_pos h0]
theorem bk_v {cost : Nat → Int32} (h0 : cost 0 < 1000000) (m : Nat) : (bk_f cost (m + 1)).2 = cost (bk_f cost (m + 1)).1 := by
  induction m with
  | zero => rw [bk_1 h0]
  | succ m ih =>
    rw [bk_f]
    split
    · rfl
    · exact ih
theorem bk_c {cost cost' : Nat → Int32} {k : Nat} (h : ∀ m, m < k → cost m = cost' m) : bk_f cost k = bk_f cost' k := by
  induction k with
  | zero => rfl
  | succ k ih => rw [bk_f, bk_f, ih (fun m hm => h m (by omega)), h k (by omega)]
/-! congruences -/
theorem dC_eq.rf (K : dC) : dC.eq K K := ⟨rfl, fun _ _ => ⟨rfl, rfl, rfl, rfl⟩, fun _ _ => rfl⟩
theorem tb_K_c {K K' : dC} (h : dC.eq K K') {c : Nat} {v : Int32} : dC.eq (tb_K K c v) (tb_K K' c v) := by
  refine ⟨h.1, fun d hd => ?_, h.2.2⟩
  obtain ⟨e1, e2, e3, e4⟩ := h.2.1 d hd
  refine ⟨e1, e2, ?_, e4⟩
  show upd (dC.pat K) c v d = upd (dC.pat K') c v d
  by_cases e : d = c
  · subst e
    rw [pk_us, pk_us]
  · rw [pk_un e, pk_un e]
    exact e3
theorem dd_x_c {K K' : dC} (h : dC.eq K K') {ha ha' : Nat → Int32} {c : Nat} (hc : c < K.1) (hh : ha c = ha' c) : dd_x K ha c = dd_x K' ha' c := by
  unfold dd_x
  rw [DW_c h hc, DP_c h hc, hh, (h.2.1 c hc).2.1]
theorem dd_B_c {K K' : dC} (h : dC.eq K K') {ha ha' : Nat → Int32} {c : Nat} (hc : c < K.1) (hh : ha c = ha' c) : dd_B ha K c = dd_B ha' K' c := by
  unfold dd_B
  rw [bk_c (fun m _ => dd_x_c (tb_K_c h) hc hh)]
theorem rd_K_c {K K' : dC} (h : dC.eq K K') {ha ha' : Nat → Int32} (hh : ∀ c, c < K.1 → ha c = ha' c) : ∀ c, c ≤ K.1 → dC.eq (rd_K ha K c) (rd_K ha' K' c) ∧ rd_F ha K c = rd_F ha' K' c := by
  intro c
  induction c with
  | zero => intro _; exact ⟨h, rfl⟩
  | succ c ih =>
    intro hc
    obtain ⟨i1, i2⟩ := ih (by omega)
    have n1 : (rd_K ha K c).1 = K.1 := by
      clear ih i1 i2 hc
      induction c with
      | zero => rfl
      | succ c ih => exact ih
    have eB := dd_B_c i1 (ha := ha) (ha' := ha') (c := c) (by rw [n1]; omega) (hh c (by omega))
    refine ⟨?_, ?_⟩
    · rw [rd_K, rd_K, eB]
      exact tb_K_c i1
    · rw [rd_F, rd_F, i2, eB, (i1.2.1 c (by rw [n1]; omega)).2.2.1]
theorem rr_K_n {ha : Nat → Int32} {K : dC} (r : Nat) : (rr_K ha K r).1 = K.1 := by
  have a : ∀ (K : dC) (c : Nat), (rd_K ha K c).1 = K.1 := by
    intro K c
    induction c with
    | zero => rfl
    | succ c ih => exact ih
  induction r with
  | zero => rfl
  | succ r ih => exact (a _ _).trans ih
theorem rr_K_c {K K' : dC} (h : dC.eq K K') {ha ha' : Nat → Int32} (hh : ∀ c, c < K.1 → ha c = ha' c) (r : Nat) : dC.eq (rr_K ha K r) (rr_K ha' K' r) := by
  induction r with
  | zero => exact h
  | succ r ih =>
    have n1 := rr_K_n (ha := ha) (K := K) r
    show dC.eq (rd_K ha (rr_K ha K r) K.1) (rd_K ha' (rr_K ha' K' r) K'.1)
    rw [← h.1]
    exact (rd_K_c ih (fun c hc => hh c (by rw [n1] at hc; exact hc)) K.1 (by omega)).1
theorem rr_F_c {K K' : dC} (h : dC.eq K K') {ha ha' : Nat → Int32} (hh : ∀ c, c < K.1 → ha c = ha' c) (r : Nat) : rd_F ha (rr_K ha K r) K.1 = rd_F ha' (rr_K ha' K' r) K'.1 := by
  have n1 := rr_K_n (ha := ha) (K := K) r
  rw [← h.1]
  exact (rd_K_c (rr_K_c h hh r) (fun c hc => hh c (by rw [n1] at hc; exact hc)) K.1 (by omega)).2
theorem rr_R_c {K K' : dC} (h : dC.eq K K') {ha ha' : Nat → Int32} (hh : ∀ c, c < K.1 → ha c = ha' c) : ∀ q r, rr_R ha K q r = rr_R ha' K' q r ∧ rr_E ha K q r = rr_E ha' K' q r := by
  intro q
  induction q with
  | zero => intro r; exact ⟨rfl, rfl⟩
  | succ q ih =>
    intro r
    rw [rr_R, rr_R, rr_E, rr_E, rr_F_c h hh r, (ih (r + 1)).1, (ih (r + 1)).2]
    exact ⟨rfl, rfl⟩
theorem go_K_c {K K' : dC} (h : dC.eq K K') {hr : Int32} (ht : dC.tm K K.1 = dC.tm K' K.1) : dC.eq (go_K K hr) (go_K K' hr) := by
  have hn : K'.1 = K.1 := h.1.symm
  refine ⟨congrArg (· + 1) h.1, fun c hc => ?_, h.2.2⟩
  have hc' : c < K.1 + 1 := hc
  show upd (dC.kind K) K.1 5 c = upd (dC.kind K') K'.1 5 c ∧ upd (dC.come K) K.1 hr c = upd (dC.come K') K'.1 hr c ∧ upd (dC.pat K) K.1 0 c = upd (dC.pat K') K'.1 0 c ∧ dC.tm K c = dC.tm K' c
  rw [hn]
  by_cases e : c = K.1
  · subst e
    rw [pk_us, pk_us, pk_us, pk_us, pk_us, pk_us]
    exact ⟨rfl, rfl, rfl, ht⟩
  · rw [pk_un e, pk_un e, pk_un e, pk_un e, pk_un e, pk_un e]
    obtain ⟨e1, e2, e3, e4⟩ := h.2.1 c (by omega)
    exact ⟨e1, e2, e3, e4⟩
theorem go_K_ok {K : dC} (h : dK_ok K) (h6 : K.1 ≤ 6) {a : Nat} (ha : a ≤ 11) : dK_ok (go_K K (nI a)) := by
  refine ⟨by show K.1 + 1 ≤ 7; omega, fun c hc => ?_, h.2.2⟩
  have hc' : c < K.1 + 1 := hc
  show ∃ b : Nat, b ≤ 11 ∧ upd (dC.come K) K.1 (nI a) c = nI b
  by_cases e : c = K.1
  · subst e
    rw [pk_us]
    exact ⟨a, ha, rfl⟩
  · rw [pk_un e]
    exact h.2.1 c (by omega)
