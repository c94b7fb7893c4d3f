/-! pass, on both sides -/
section PP
variable {b x m : Nat → Int32} {N : Nat}
theorem rn_ne {τ : ax_Z} {e a : Nat} {most : Int32} (h : a ≠ 2) : rn_S τ N e most a = τ a := by
  unfold rn_S
  split
  · split
    · exact rd_go_ne h
    · rw [up_ne h, rd_go_ne h]
  · rw [up_ne h, rd_go_ne h]
theorem rs_ne {τ : ax_Z} {e a : Nat} (h : a ≠ 2) : rs_S τ N e a = τ a := by
  unfold rs_S
  split
  · exact rd_go_ne h
  · rw [up_ne h, rd_go_ne h]
theorem tl_P_ne {τ : ax_Z} {a : Nat} (h : a ≠ 2 ∧ a ≠ 5) : ∀ q n, tl_P τ b N q n a = τ a := by
  intro q
  induction q with
  | zero => intro n; rw [tl_P, rs_ne h.1, tl_S_4 h]
  | succ q ih =>
    intro n
    rw [tl_P]
    split
    · exact ih (n + 1)
    · rw [rn_ne h.1, tl_S_4 h]
theorem ca_k_ne {τ : ax_Z} {j c a : Nat} (h : a ≠ 2 ∧ a ≠ 4 ∧ a ≠ 6 ∧ a ≠ 7 ∧ a ≠ 8 ∧ a ≠ 9) : ca_1 τ b N j c a = τ a ∧ ca_2 τ b N j c a = τ a ∧ ca_3 τ b N j c a = τ a ∧ ca_5 τ b N j c a = τ a := by
  have h1 : ca_1 τ b N j c a = τ a := by
    unfold ca_1
    rw [up_ne (by omega), rd_go_ne (by omega)]
  have h2 : ca_2 τ b N j c a = τ a := by
    unfold ca_2
    rw [up_ne (by omega), rd_go_ne (by omega), h1]
  have h3 : ca_3 τ b N j c a = τ a := by
    unfold ca_3
    rw [up_ne (by omega), rd_go_ne (by omega), h2]
  refine ⟨h1, h2, h3, ?_⟩
  unfold ca_5 ca_4
  rw [up_ne (by omega), up_ne (by omega), rd_go_ne (by omega), h3]
theorem ca_P_ne {τ : ax_Z} {j c a : Nat} (h : a ≠ 2 ∧ a ≠ 4 ∧ a ≠ 6 ∧ a ≠ 7 ∧ a ≠ 8 ∧ a ≠ 9) : ca_P τ b N j c a = τ a := by
  obtain ⟨h1, h2, h3, h5⟩ := ca_k_ne (τ := τ) (b := b) (N := N) (j := j) (c := c) h
  unfold ca_P
  split
  · split
    · split
      · rw [up_ne h.1, h1]
      · split
        · split
          · split
            · rw [rs_ne h.1, h5]
            · rw [rn_ne h.1, h3]
          · rw [rn_ne h.1, h2]
        · rw [rn_ne h.1, h1]
    · rw [up_ne h.1]
  · rw [up_ne h.1]
theorem rp_S_ne {τ : ax_Z} {a : Nat} (h : a ≠ 2 ∧ a ≠ 4 ∧ a ≠ 6 ∧ a ≠ 7 ∧ a ≠ 8 ∧ a ≠ 9) : ∀ t, rp_S τ b N t a = τ a := by
  intro t
  induction t with
  | zero => rfl
  | succ t ih => rw [rp_S, ca_P_ne h, rd_go_ne h.1, ih]
theorem an_ne {τ : ax_Z} {a : Nat} (h : a ≠ 4 ∧ a ≠ 10 ∧ a ≠ 11 ∧ a ≠ 13) : hp_an τ 4 a = τ a := by
  unfold hp_an
  rw [up_ne (by omega), fi_ne (by omega), fi_ne (by omega), fi_ne (by omega)]
theorem rp_P_ne {τ : ax_Z} {a : Nat} (h : a ≠ 2 ∧ a ≠ 4 ∧ a ≠ 6 ∧ a ≠ 7 ∧ a ≠ 8 ∧ a ≠ 9) (h' : a ≠ 10 ∧ a ≠ 11 ∧ a ≠ 13) : ∀ q t, rp_P τ b N q t a = τ a := by
  intro q
  induction q with
  | zero => intro t; rw [rp_P, rp_S_ne h]
  | succ q ih =>
    intro t
    rw [rp_P]
    split
    · rw [an_ne ⟨h.2.1, h'⟩, rd_go_ne h.1, rp_S_ne h]
    · split
      · exact ih (t + 1)
      · rw [ca_P_ne h, rd_go_ne h.1, rp_S_ne h]
theorem rp_0_ne {σ : ax_Z} {a : Nat} (h : a ≠ 2 ∧ a ≠ 4) : rp_0 σ a = σ a := by
  unfold rp_0
  rw [up_ne h.1, up_ne h.1, up_ne h.2, up_ne h.2]
theorem rp_Z_ne {σ : ax_Z} {a : Nat} (h : a < 2 ∨ a = 3 ∨ a = 12 ∨ 14 ≤ a) : rp_Z σ b N a = σ a := by
  have e1 : rd_go (rp_0 σ) N (EE b N 0) a = σ a := by rw [rd_go_ne (by omega), rp_0_ne (by omega)]
  have e2 : rp_t σ b N a = σ a := by
    unfold rp_t
    rw [tl_P_ne (by omega), e1]
  unfold rp_Z
  split
  · split
    · rw [rp_P_ne (by omega) (by omega), e2]
    · exact e2
  · rw [up_ne (by omega), e1]
theorem rp_0_at {σ : ax_Z} (hN : σ 2 1 = nI N) (hb : σ 3 = b) : rd_at (rp_0 σ) b N 0 := by
  unfold rp_0
  refine ⟨?_, ?_, ?_⟩
  · simp (disch := decide) only [up_o, up_ne]
    exact hN
  · rw [up_o (by decide), up_s]
    rfl
  · simp (disch := decide) only [up_ne]
    exact hb
theorem rp_t_at {σ : ax_Z} (hN : σ 2 1 = nI N) (hb : σ 3 = b) (ht : tl_B b N 6 0 = true) : rd_at (rp_t σ b N) b N 8 ∧ rp_t σ b N 4 10 = 0 ∧ rp_t σ b N 4 9 = 1 ∧ rp_t σ b N 5 = tl_S (rd_go (rp_0 σ) N (EE b N 0)) b N 6 5 := by
  have r0 := rp_0_at hN hb
  unfold rp_t
  rw [tl_P_ok r0.go ht]
  refine ⟨(tl_at r0.go 6).go, ?_, ?_, rd_go_ne (by decide)⟩
  · rw [rd_go_ne (by decide), tl_S_4 (by decide), rd_go_ne (by decide)]
    unfold rp_0
    simp (disch := decide) only [up_o, up_ne, up_s]
  · rw [rd_go_ne (by decide), tl_S_4 (by decide), rd_go_ne (by decide)]
    unfold rp_0
    simp (disch := decide) only [up_o, up_ne, up_s]
theorem tl_S_5 {τ : ax_Z} {n : Nat} : ∀ k, k < n → tl_S τ b N n 5 k = tkv b N (EE b N (k + 1)) := by
  induction n with
  | zero => intro k hk; omega
  | succ n ih =>
    intro k hk
    rw [tl_S]
    by_cases e : k = n
    · subst e
      rw [up_s]
    · rw [up_o e, rd_go_ne (by decide)]
      exact ih k (by omega)
/-- the carts that were read -/
theorem rp_S_c {τ : ax_Z} (hr : rd_at τ b N 8) (hc : τ 4 10 = 0) : ∀ u, (∀ s, s < u → ca_B b N (8 + 6 * s) s = true) → rp_S τ b N u 4 9 = τ 4 9 ∧ ∀ c, c < u → rp_S τ b N u 6 c = nI (kd_t b N (8 + 6 * c + 1)) ∧ rp_S τ b N u 7 c = tkv b N (EE b N (8 + 6 * c + 2)) ∧ rp_S τ b N u 8 c = tkv b N (EE b N (8 + 6 * c + 3)) ∧ rp_S τ b N u 9 c = tkv b N (EE b N (8 + 6 * c + 4)) := by
  intro u
  induction u with
  | zero => intro _; exact ⟨rfl, fun c hc => by omega⟩
  | succ u ih =>
    intro ho
    obtain ⟨i0, i1⟩ := ih (fun s hs => ho s (by omega))
    obtain ⟨a1, -⟩ := rp_at hr hc u (fun s hs => ho s (by omega))
    have e := ca_P_ok a1.go (ho u (by omega))
    rw [rp_S, e]
    refine ⟨?_, fun c hcu => ?_⟩
    · rw [rd_go_ne (by decide)]
      unfold ca_5 ca_4 ca_3 ca_2 ca_1
      simp (disch := decide) only [up_o, up_ne, rd_go_ne]
      exact i0
    · unfold ca_5 ca_4 ca_3 ca_2 ca_1
      by_cases ec : c = u
      · subst ec
        simp (disch := decide) only [up_ne, rd_go_ne, up_s]
        exact ⟨trivial, trivial, trivial, trivial⟩
      · simp (disch := first | decide | exact ec) only [up_ne, rd_go_ne, up_o]
        exact i1 c (by omega)
/-! the reference's side -/
theorem pm_tz_x (h : TT x m N) (ht : tl_B x N 6 0 = true) : ∀ n, n ≤ 6 → pm_tz m N (1, 0) n = (n + 1, 0) := by
  obtain ⟨h1, -⟩ := tl_B_ok ht
  intro n
  induction n with
  | zero => intro _; rfl
  | succ n ih =>
    intro hn
    rw [pm_tz, ih (by omega), pm_num_x h, xn, if_pos (h1 n (by omega)).1, if_pos (h1 n (by omega)).2]
theorem pm_val_x (h : TT x m N) {i : Nat} (hK : tkK x N (EE x N i) = 2) : pm_val m N (i, 0) = tkv x N (EE x N i) := by
  unfold pm_val pm_w
  rw [if_pos rfl]
  show (if tK m N i = 2 then pm_v m N i else 0) = _
  rw [h.kk, if_pos hK]
  exact (h.num hK).1
theorem pm_tf_82 {σ : ax_Z} {z : Nat × Nat} : ∀ n, (∀ k, k < n → pm_tf σ m N z n 82 (2 + k) = pm_val m N (pm_tz m N z k)) ∧ ∀ j, (j < 2 ∨ 2 + n ≤ j) → pm_tf σ m N z n 82 j = σ 82 j := by
  intro n
  induction n with
  | zero => exact ⟨fun k hk => by omega, fun j _ => rfl⟩
  | succ n ih =>
    refine ⟨fun k hk => ?_, fun j hj => ?_⟩
    · rw [pm_tf]
      by_cases e : k = n
      · subst e
        rw [up_s]
      · rw [up_o (by omega)]
        exact ih.1 k (by omega)
    · rw [pm_tf, up_o (by omega)]
      exact ih.2 j (by omega)
theorem ca_x (h : TT x m N) {j c : Nat} (hB : ca_B x N j c = true) : pm_c7 m N c (j, 0) = (j + 6, 0) ∧ pm_kd m N c (j, 0) = nI (kd_t x N (j + 1)) ∧ pm_val m N (pm_c3 m N c (j, 0)) = tkv x N (EE x N (j + 2)) ∧ pm_val m N (pm_c4 m N c (j, 0)) = tkv x N (EE x N (j + 3)) ∧ pm_val m N (pm_c5 m N c (j, 0)) = tkv x N (EE x N (j + 4)) := by
  obtain ⟨h1, h2, h3, h4, h5, h6, h7⟩ := ca_B_ok hB
  have kl : kd_t x N (j + 1) < 6 := kd_t_lt
  have e1 : pm_c1 c (j, 0) = (j, 0) := by
    unfold pm_c1
    rw [if_neg (by omega)]
  have e2 : pm_c2 c (j, 0) = (j + 1, 0) := by
    unfold pm_c2
    rw [e1]
    rfl
  have k1 : pm_kd m N c (j, 0) = nI (kd_t x N (j + 1)) := by
    unfold pm_kd
    rw [e2, h.kd, if_neg h3]
  have e3 : pm_c3 m N c (j, 0) = (j + 2, 0) := by
    unfold pm_c3
    rw [k1, e2, pm_must_t rfl (decide_eq_true (nI_none (by omega)))]
  have e4 : pm_c4 m N c (j, 0) = (j + 3, 0) := by rw [pm_c4, e3, pm_num_x h, xn, if_pos h4.1, if_pos h4.2]
  have e5 : pm_c5 m N c (j, 0) = (j + 4, 0) := by rw [pm_c5, e4, pm_num_x h, xn, if_pos h5.1, if_pos h5.2]
  refine ⟨?_, k1, ?_, ?_, ?_⟩
  · rw [pm_c7_x h (by omega) h1, ca_xc hB]
  · rw [e3]
    exact pm_val_x h h4.1
  · rw [e4]
    exact pm_val_x h h5.1
  · rw [e5]
    exact pm_val_x h h6.1
def pS (m : Nat → Int32) (N : Nat) (τ : ax_Z) : Nat → ax_Z
  | 0 => τ
  | t + 1 => pm_cf (pS m N τ t) m N t (8 + 6 * t, 0)
theorem pm_L_S (h : TT x m N) {τ : ax_Z} : ∀ (k t r : Nat), (∀ s, t ≤ s → s < t + k → ca_B x N (8 + 6 * s) s = true) → ¬ wd_t x N (8 + 6 * (t + k)) 1 = true → pm_L m N (k + 1 + r) (pS m N τ t) t (8 + 6 * t, 0) = (pS m N τ (t + k), (8 + 6 * (t + k), 0)) := by
  intro k
  induction k with
  | zero =>
    intro t r _ hw
    rw [Nat.add_zero] at hw
    rw [show 0 + 1 + r = r + 1 by omega, pm_L, if_neg (fun z => hw (h.w1.mp z))]
    rfl
  | succ k ih =>
    intro t r ho hw
    have hB := ho t (Nat.le_refl t) (by omega)
    rw [show k + 1 + 1 + r = (k + 1 + r) + 1 by omega, pm_L, if_pos (h.w1.mpr (ca_B_ok hB).1), (ca_x h hB).1, show 8 + 6 * t + 6 = 8 + 6 * (t + 1) by omega]
    have i1 := ih (t + 1) r (fun s s1 s2 => ho s (by omega) (by omega)) (by rw [show t + 1 + k = t + (k + 1) by omega]; exact hw)
    rw [show t + 1 + k = t + (k + 1) by omega] at i1
    exact i1
theorem pS_ne {τ : ax_Z} {a : Nat} (h : a ≠ 82) : ∀ t, pS m N τ t a = τ a := by
  intro t
  induction t with
  | zero => rfl
  | succ t ih => rw [pS, pm_cf_ne h, ih]
theorem pS_c (h : TT x m N) {τ : ax_Z} (h0 : τ 82 0 = nI 0) : ∀ u, (∀ s, s < u → ca_B x N (8 + 6 * s) s = true) → pS m N τ u 82 0 = nI u ∧ (∀ c, c < u → pS m N τ u 82 (8 + 6 * c + 0) = nI (kd_t x N (8 + 6 * c + 1)) ∧ pS m N τ u 82 (8 + 6 * c + 1) = tkv x N (EE x N (8 + 6 * c + 2)) ∧ pS m N τ u 82 (8 + 6 * c + 2) = tkv x N (EE x N (8 + 6 * c + 3)) ∧ pS m N τ u 82 (8 + 6 * c + 3) = tkv x N (EE x N (8 + 6 * c + 4)) ∧ pS m N τ u 82 (8 + 6 * c + 4) = -1000000) ∧ ∀ j, (j ≠ 0 ∧ (j < 8 ∨ ∃ c, j = 8 + 6 * c + 5)) → pS m N τ u 82 j = τ 82 j := by
  intro u
  induction u with
  | zero => intro _; exact ⟨h0, fun c hc => by omega, fun j _ => rfl⟩
  | succ u ih =>
    intro ho
    obtain ⟨i0, i1, i2⟩ := ih (fun s hs => ho s (by omega))
    obtain ⟨c7, kd, v1, v2, v3⟩ := ca_x h (ho u (by omega))
    have e : pS m N τ (u + 1) = mcar (pS m N τ u) u (nI (kd_t x N (8 + 6 * u + 1))) (tkv x N (EE x N (8 + 6 * u + 2))) (tkv x N (EE x N (8 + 6 * u + 3))) (tkv x N (EE x N (8 + 6 * u + 4))) := by
      rw [pS, pm_cf, if_pos (by rw [c7]), kd, v1, v2, v3]
    rw [e]
    unfold mcar
    refine ⟨up_s, fun c hc => ?_, fun j hj => ?_⟩
    · by_cases ec : c = u
      · subst ec
        refine ⟨?_, ?_, ?_, ?_, ?_⟩
        · rw [up_o (by omega), up_o (by omega), up_o (by omega), up_o (by omega), up_o (by omega)]
          exact up_s
        · rw [up_o (by omega), up_o (by omega), up_o (by omega), up_o (by omega), up_s]
        · rw [up_o (by omega), up_o (by omega), up_o (by omega), up_s]
        · rw [up_o (by omega), up_o (by omega), up_s]
        · rw [up_o (by omega), up_s]
      · have hs : ∀ k, k < 6 → ax_up (ax_up (ax_up (ax_up (ax_up (ax_up (pS m N τ u) 82 (8 + 6 * u) (nI (kd_t x N (8 + 6 * u + 1)))) 82 (8 + 6 * u + 1) (tkv x N (EE x N (8 + 6 * u + 2)))) 82 (8 + 6 * u + 2) (tkv x N (EE x N (8 + 6 * u + 3)))) 82 (8 + 6 * u + 3) (tkv x N (EE x N (8 + 6 * u + 4)))) 82 (8 + 6 * u + 4) (-1000000)) 82 0 (nI (u + 1)) 82 (8 + 6 * c + k) = pS m N τ u 82 (8 + 6 * c + k) := fun k hk => by
          rw [up_o (by omega), up_o (by omega), up_o (by omega), up_o (by omega), up_o (by omega), up_o (by omega)]
        rw [hs 0 (by decide), hs 1 (by decide), hs 2 (by decide), hs 3 (by decide), hs 4 (by decide)]
        exact i1 c (by omega)
    · rw [← i2 j hj]
      rcases hj with ⟨j0, j8 | ⟨c, rfl⟩⟩
      · rw [up_o (by omega), up_o (by omega), up_o (by omega), up_o (by omega), up_o (by omega), up_o (by omega)]
      · rw [up_o (by omega), up_o (by omega), up_o (by omega), up_o (by omega), up_o (by omega), up_o (by omega)]
theorem pm_L_ne {a : Nat} (h : a ≠ 82) : ∀ (q : Nat) (τ : ax_Z) (c : Nat) (z : Nat × Nat), (pm_L m N q τ c z).1 a = τ a := by
  intro q
  induction q with
  | zero => intro τ c z; rfl
  | succ q ih =>
    intro τ c z
    rw [pm_L]
    split
    · rw [ih, pm_cf_ne h]
    · rfl
theorem mp_L_ne {σ : ax_Z} {a : Nat} (h : a ≠ 82) (h7 : a ≠ 77) : (mp_L σ m N).1 a = σ a := by
  unfold mp_L mp_3
  rw [pm_L_ne h, pm_tf_ne h, mp_0_ne h7 h]
theorem mp_L_77 {σ : ax_Z} {j : Nat} (h : j ≠ 0 ∧ j ≠ 13 ∧ j ≠ 11) : (mp_L σ m N).1 77 j = σ 77 j := by
  unfold mp_L mp_3
  rw [pm_L_ne (by decide), pm_tf_ne (by decide)]
  unfold mp_0
  rw [fin_ne (by decide), up_o h.2.2, up_o h.2.1, up_o h.1]
theorem mp_L_11 {σ : ax_Z} : (mp_L σ m N).1 77 11 = 0 := by
  unfold mp_L mp_3
  rw [pm_L_ne (by decide), pm_tf_ne (by decide)]
  unfold mp_0
  rw [fin_ne (by decide), up_s]
theorem mr_77 {σ : ax_Z} {z : Nat × Nat} {j : Nat} (h : j < 14 ∨ 20 ≤ j) : mr σ b N z 77 j = σ 77 j := by
  unfold mr mx_st
  rw [up_o (by omega), up_o (by omega), up_o (by omega), up_o (by omega), up_o (by omega), up_o (by omega)]
end PP
