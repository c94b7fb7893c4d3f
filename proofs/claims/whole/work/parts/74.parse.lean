/-! a text, told by its tokens alone: (the token looked at, the fault) -/
def xn (b : Nat → Int32) (N i : Nat) (most : Int32) (k : Nat × Nat) : Nat × Nat := if tkK b N (EE b N i) = 2 then (if tkv b N (EE b N i) ≤ most then k else (i, 2)) else (i, 1)
def xt (b : Nat → Int32) (N : Nat) : Nat → Nat → Nat × Nat
  | 0, n => if tkK b N (EE b N (n + 1)) = 3 then (n + 2, 0) else (n + 1, 1)
  | q + 1, n => xn b N (n + 1) 99 (xt b N q (n + 1))
def xc5 (b : Nat → Int32) (N j : Nat) : Nat × Nat := if tkK b N (EE b N (j + 5)) = 3 then (j + 6, 0) else (j + 5, 1)
def xc (b : Nat → Int32) (N j c : Nat) : Nat × Nat := if wd_t b N j 1 = true then (if c < 6 then (if kd_t b N (j + 1) = 0 then (j + 1, 1) else xn b N (j + 2) 11 (xn b N (j + 3) 20 (xn b N (j + 4) 11 (xc5 b N j)))) else (j, 3)) else (j, 1)
def xr (b : Nat → Int32) (N : Nat) : Nat → Nat → Nat × Nat
  | 0, t => (8 + 6 * t, 1)
  | q + 1, t => if tkK b N (EE b N (8 + 6 * t)) = 0 then (8 + 6 * t, 0) else if (xc b N (8 + 6 * t) t).2 = 0 then xr b N q (t + 1) else xc b N (8 + 6 * t) t
section PX
variable {b x m : Nat → Int32} {N : Nat}
theorem xn_g {g : Nat × Nat → Nat × Nat} (hg : ∀ z : Nat × Nat, ¬ z.2 = 0 → g z = z) {i : Nat} {most : Int32} {k : Nat × Nat} : g (xn b N i most k) = xn b N i most (g k) := by
  unfold xn
  split
  · split
    · rfl
    · exact hg _ (Nat.succ_ne_zero _)
  · exact hg _ (Nat.succ_ne_zero _)
theorem pm_num_x (h : TT x m N) {i : Nat} {most : Int32} : pm_num m N most (i, 0) = xn x N i most (i + 1, 0) := by
  unfold pm_num xn
  rw [if_pos rfl]
  show (if tK m N i = 2 then (if 0 ≤ pm_v m N i ∧ pm_v m N i ≤ most then (i + 1, 0) else (i, 2)) else (i, 1)) = _
  rw [h.kk i]
  by_cases hK : tkK x N (EE x N i) = 2
  · obtain ⟨e1, e2⟩ := h.num hK
    rw [if_pos hK, if_pos hK, ← e1]
    by_cases hl : pm_v m N i ≤ most
    · rw [if_pos ⟨e2, hl⟩, if_pos hl]
    · rw [if_neg (fun z => hl z.2), if_neg hl]
  · rw [if_neg hK, if_neg hK]
theorem pm_end_x (h : TT x m N) {i : Nat} : pm_end m N (i, 0) = if tkK x N (EE x N i) = 3 then (i + 1, 0) else (i, 1) := by
  unfold pm_end pm_must
  rw [if_pos rfl]
  show (if decide (tK m N i = 3) = true then (i + 1, 0) else (i, 1)) = _
  rw [h.kk i]
  simp only [decide_eq_true_eq]
def pm_it (m : Nat → Int32) (N : Nat) : Nat → Nat × Nat → Nat × Nat
  | 0, z => pm_end m N z
  | q + 1, z => pm_it m N q (pm_num m N 99 z)
theorem pm_it_n : ∀ (q : Nat) (z : Nat × Nat), ¬ z.2 = 0 → pm_it m N q z = z := by
  intro q
  induction q with
  | zero => intro z h; exact pm_end_n h
  | succ q ih => intro z h; rw [pm_it, pm_num_n h, ih z h]
theorem pm_it_x (h : TT x m N) : ∀ q n, pm_it m N q (n + 1, 0) = xt x N q n := by
  intro q
  induction q with
  | zero => intro n; exact pm_end_x h
  | succ q ih =>
    intro n
    rw [pm_it, pm_num_x h, xn_g (g := pm_it m N q) (pm_it_n q), ih (n + 1), xt]
theorem mp_z3_x (h : TT x m N) : mp_z3 m N = if wd_t x N 0 0 = true then xt x N 6 0 else (0, 1) := by
  have e : mp_z3 m N = pm_it m N 6 (mp_z1 m N) := rfl
  rw [e]
  have e1 : mp_z1 m N = if wd_t x N 0 0 = true then (1, 0) else (0, 1) := by
    unfold mp_z1 pm_must
    rw [if_pos rfl]
    by_cases q : wd_t x N 0 0 = true
    · rw [if_pos q, decide_eq_true (h.w0.mpr q)]
      rfl
    · rw [if_neg q, decide_eq_false (fun z => q (h.w0.mp z))]
      rfl
  rw [e1]
  by_cases q : wd_t x N 0 0 = true
  · rw [if_pos q, if_pos q]
    exact pm_it_x h 6 0
  · rw [if_neg q, if_neg q]
    exact pm_it_n 6 _ (Nat.succ_ne_zero _)
theorem pm_c7_x (h : TT x m N) {j c : Nat} (h6 : c ≤ 6) (hw : wd_t x N j 1 = true) : pm_c7 m N c (j, 0) = xc x N j c := by
  unfold xc
  rw [if_pos hw]
  by_cases hc : c = 6
  · have h1 : pm_c1 c (j, 0) = (j, 3) := by
      unfold pm_c1
      rw [if_pos hc]
      rfl
    rw [if_neg (by omega), pm_c7_1 (by rw [h1]; exact Nat.succ_ne_zero _), h1]
  · have h1 : pm_c1 c (j, 0) = (j, 0) := by
      unfold pm_c1
      rw [if_neg hc]
    have h2 : pm_c2 c (j, 0) = (j + 1, 0) := by
      unfold pm_c2
      rw [h1]
      rfl
    rw [if_pos (by omega)]
    have k1 : pm_kd m N c (j, 0) = if kd_t x N (j + 1) = 0 then -1000000 else nI (kd_t x N (j + 1)) := by
      unfold pm_kd
      rw [h2]
      exact h.kd
    have kl : kd_t x N (j + 1) < 6 := kd_t_lt
    by_cases k0 : kd_t x N (j + 1) = 0
    · rw [if_pos k0] at k1 ⊢
      have h3 : pm_c3 m N c (j, 0) = (j + 1, 1) := by
        unfold pm_c3
        rw [k1, h2]
        rfl
      have n1 : ∀ most, pm_num m N most (j + 1, 1) = (j + 1, 1) := fun _ => pm_num_n (Nat.succ_ne_zero _)
      rw [pm_c7, pm_c6, pm_c5, pm_c4, h3, n1, n1, n1]
      exact pm_end_n (Nat.succ_ne_zero _)
    · rw [if_neg k0] at k1 ⊢
      have h3 : pm_c3 m N c (j, 0) = (j + 2, 0) := by
        unfold pm_c3
        rw [k1, h2, pm_must_t rfl (decide_eq_true (nI_none (by omega)))]
      rw [pm_c7, pm_c6, pm_c5, pm_c4, h3, pm_num_x h, xn_g (g := pm_num m N 20) (fun z hz => pm_num_n hz), pm_num_x h, xn_g (g := pm_num m N 11) (fun z hz => pm_num_n hz), xn_g (g := pm_num m N 11) (fun z hz => pm_num_n hz), pm_num_x h, xn_g (g := pm_end m N) (fun z hz => pm_end_n hz), xn_g (g := pm_end m N) (fun z hz => pm_end_n hz), xn_g (g := pm_end m N) (fun z hz => pm_end_n hz), pm_end_x h]
      rfl
theorem pm_L_n {q c : Nat} {τ : ax_Z} {z : Nat × Nat} (h : ¬ z.2 = 0) : pm_L m N q τ c z = (τ, z) := by
  cases q with
  | zero => rfl
  | succ q =>
    rw [pm_L, if_neg]
    intro e
    exact h (pm_n_0 e (by decide))
theorem xc_ok {j c : Nat} (h : (xc b N j c).2 = 0) : xc b N j c = (j + 6, 0) ∧ ca_B b N j c = true := by
  unfold xc xn xc5 at h ⊢
  unfold ca_B
  split at h
  · next h1 =>
    rw [if_pos h1, if_pos h1]
    split at h
    · next h2 =>
      rw [if_pos h2, if_pos h2]
      split at h
      · exact absurd h (Nat.succ_ne_zero _)
      · next h3 =>
        rw [if_neg h3, if_neg h3]
        split at h
        · next h4 =>
          rw [if_pos h4]
          split at h
          · next h5 =>
            rw [if_pos h5, if_pos (And.intro h4 h5)]
            split at h
            · next h6 =>
              rw [if_pos h6]
              split at h
              · next h7 =>
                rw [if_pos h7, if_pos (And.intro h6 h7)]
                split at h
                · next h8 =>
                  rw [if_pos h8]
                  split at h
                  · next h9 =>
                    rw [if_pos h9, if_pos (And.intro h8 h9)]
                    split at h
                    · next h10 =>
                      rw [if_pos h10, decide_eq_true h10]
                      exact ⟨rfl, rfl⟩
                    · exact absurd h (Nat.succ_ne_zero _)
                  · exact absurd h (Nat.succ_ne_zero _)
                · exact absurd h (Nat.succ_ne_zero _)
              · exact absurd h (Nat.succ_ne_zero _)
            · exact absurd h (Nat.succ_ne_zero _)
          · exact absurd h (Nat.succ_ne_zero _)
        · exact absurd h (Nat.succ_ne_zero _)
    · exact absurd h (Nat.succ_ne_zero _)
  · exact absurd h (Nat.succ_ne_zero _)
theorem ca_xc {j c : Nat} (h : ca_B b N j c = true) : xc b N j c = (j + 6, 0) := by
  obtain ⟨h1, h2, h3, h4, h5, h6, h7⟩ := ca_B_ok h
  unfold xc xn xc5
  rw [if_pos h1, if_pos h2, if_neg h3, if_pos h4.1, if_pos h4.2, if_pos h5.1, if_pos h5.2, if_pos h6.1, if_pos h6.2, if_pos h7]
theorem wd_t_K {i k : Nat} (h : wd_t b N i k = true) : tkK b N (EE b N i) = 1 := (wd_t_iff.mpr h).1
theorem pm_L_x (h : TT x m N) : ∀ (q t : Nat) (τ : ax_Z), t + q = 6 → pm_fin m N (pm_L m N (q + 2) τ t (8 + 6 * t, 0)).2 = xr x N (q + 1) t := by
  have out : ∀ (t : Nat), ¬ wd_t x N (8 + 6 * t) 1 = true → pm_fin m N (8 + 6 * t, 0) = if tkK x N (EE x N (8 + 6 * t)) = 0 then (8 + 6 * t, 0) else (8 + 6 * t, 1) := fun t _ => by
    unfold pm_fin
    rw [if_pos rfl]
    show (if tK m N (8 + 6 * t) = 0 then _ else _) = _
    rw [h.kk]
  have fl : ∀ z : Nat × Nat, ¬ z.2 = 0 → pm_fin m N z = z := fun z hz => if_neg hz
  intro q
  induction q with
  | zero =>
    intro t τ ht
    have e6 : t = 6 := by omega
    subst e6
    rw [pm_L, xr]
    by_cases hw : wd_t x N (8 + 6 * 6) 1 = true
    · have hK := wd_t_K hw
      rw [if_pos (h.w1.mpr hw), if_neg (by rw [hK]; decide), pm_c7_x h (by decide) hw]
      have e : xc x N (8 + 6 * 6) 6 = (8 + 6 * 6, 3) := by
        unfold xc
        rw [if_pos hw, if_neg (by decide)]
      rw [e, pm_L_n (Nat.succ_ne_zero _), if_neg (Nat.succ_ne_zero _)]
      exact fl _ (Nat.succ_ne_zero _)
    · rw [if_neg (fun z => hw (h.w1.mp z)), out 6 hw]
      by_cases hK : tkK x N (EE x N (8 + 6 * 6)) = 0
      · rw [if_pos hK, if_pos hK]
      · rw [if_neg hK, if_neg hK]
        have e : xc x N (8 + 6 * 6) 6 = (8 + 6 * 6, 1) := by
          unfold xc
          rw [if_neg hw]
        rw [e, if_neg (Nat.succ_ne_zero _)]
  | succ q ih =>
    intro t τ ht
    rw [pm_L, xr]
    by_cases hw : wd_t x N (8 + 6 * t) 1 = true
    · have hK := wd_t_K hw
      rw [if_pos (h.w1.mpr hw), if_neg (by rw [hK]; decide), pm_c7_x h (by omega) hw]
      by_cases h0 : (xc x N (8 + 6 * t) t).2 = 0
      · rw [if_pos h0, (xc_ok h0).1, show 8 + 6 * t + 6 = 8 + 6 * (t + 1) by omega]
        exact ih (t + 1) _ (by omega)
      · rw [if_neg h0, pm_L_n h0]
        exact fl _ h0
    · rw [if_neg (fun z => hw (h.w1.mp z)), out t hw]
      by_cases hK : tkK x N (EE x N (8 + 6 * t)) = 0
      · rw [if_pos hK, if_pos hK]
      · rw [if_neg hK, if_neg hK]
        have e : xc x N (8 + 6 * t) t = (8 + 6 * t, 1) := by
          unfold xc
          rw [if_neg hw]
        rw [e, if_neg (Nat.succ_ne_zero _)]
/-- the whole text -/
def xp_z (b : Nat → Int32) (N : Nat) : Nat × Nat := if wd_t b N 0 0 = true then (if (xt b N 6 0).2 = 0 then xr b N 7 0 else xt b N 6 0) else (0, 1)
theorem xt_ok : ∀ (q n : Nat), (xt b N q n).2 = 0 → xt b N q n = (n + q + 2, 0) ∧ tl_B b N q n = true := by
  intro q
  induction q with
  | zero =>
    intro n h
    unfold xt at h ⊢
    unfold tl_B
    split at h
    · next h1 =>
      rw [if_pos h1, decide_eq_true h1]
      exact ⟨rfl, rfl⟩
    · exact absurd h (Nat.succ_ne_zero _)
  | succ q ih =>
    intro n h
    unfold xt xn at h ⊢
    unfold tl_B
    split at h
    · next h1 =>
      rw [if_pos h1]
      split at h
      · next h2 =>
        rw [if_pos h2, if_pos ⟨h1, h2⟩]
        obtain ⟨i1, i2⟩ := ih (n + 1) h
        rw [i1]
        exact ⟨by rw [show n + 1 + q + 2 = n + (q + 1) + 2 by omega], i2⟩
      · exact absurd h (Nat.succ_ne_zero _)
    · exact absurd h (Nat.succ_ne_zero _)
theorem tl_xt : ∀ (q n : Nat), tl_B b N q n = true → (xt b N q n).2 = 0 := by
  intro q
  induction q with
  | zero =>
    intro n h
    unfold xt
    rw [if_pos (of_decide_eq_true h)]
  | succ q ih =>
    intro n h
    obtain ⟨h1, h2⟩ := tl_B_s h
    unfold xt xn
    rw [if_pos h1.1, if_pos h1.2]
    exact ih (n + 1) h2
theorem mp_z_x (h : TT x m N) {σ : ax_Z} : mp_z σ m N = xp_z x N := by
  unfold mp_z mp_L xp_z
  rw [mp_z3_x h]
  by_cases hw : wd_t x N 0 0 = true
  · rw [if_pos hw, if_pos hw]
    by_cases h0 : (xt x N 6 0).2 = 0
    · rw [if_pos h0, (xt_ok 6 0 h0).1]
      exact pm_L_x h 6 0 _ rfl
    · rw [if_neg h0, pm_L_n h0]
      exact if_neg h0
  · rw [if_neg hw, if_neg hw, pm_L_n (Nat.succ_ne_zero _)]
    exact if_neg (Nat.succ_ne_zero _)
/-- a fault stands in the reader -/
def fF (τ : ax_Z) (b : Nat → Int32) (N : Nat) (z : Nat × Nat) : Prop := τ 2 7 = nI z.2 ∧ τ 2 4 = nI (tkS b N (EE b N z.1))
theorem rn_f {τ : ax_Z} {i : Nat} {most : Int32} (hr : rd_at τ b N i) : (tkK b N (EE b N i) = 2 → ¬ tkv b N (EE b N i) ≤ most → fF (rn_S τ N (EE b N i) most) b N (i, 2)) ∧ (¬ tkK b N (EE b N i) = 2 → fF (rn_S τ N (EE b N i) most) b N (i, 1)) := by
  have t4 := (rd_go_t hr).2
  refine ⟨fun h1 h2 => ?_, fun h1 => ?_⟩
  · unfold rn_S
    rw [hr.2.2, if_pos h1, if_neg (by rw [tkV_n h1]; exact h2)]
    exact ⟨up_s, by rw [up_o (by decide)]; exact t4⟩
  · unfold rn_S
    rw [hr.2.2, if_neg h1]
    exact ⟨up_s, by rw [up_o (by decide)]; exact t4⟩
theorem rs_f {τ : ax_Z} {i : Nat} (hr : rd_at τ b N i) (h1 : ¬ tkK b N (EE b N i) = 3) : fF (rs_S τ N (EE b N i)) b N (i, 1) := by
  unfold rs_S
  rw [hr.2.2, if_neg h1]
  exact ⟨up_s, by rw [up_o (by decide)]; exact (rd_go_t hr).2⟩
theorem tl_f {τ : ax_Z} (hr : rd_at τ b N 1) : ∀ (q n : Nat), ¬ (xt b N q n).2 = 0 → fF (tl_P τ b N q n) b N (xt b N q n) := by
  intro q
  induction q with
  | zero =>
    intro n h
    unfold xt at h ⊢
    unfold tl_P
    split at h
    · exact absurd rfl h
    · next h1 =>
      rw [if_neg h1]
      exact rs_f (tl_at hr n) h1
  | succ q ih =>
    intro n h
    unfold xt xn at h ⊢
    unfold tl_P
    split at h
    · next h1 =>
      rw [if_pos h1]
      split at h
      · next h2 =>
        rw [if_pos h2, if_pos ⟨h1, h2⟩]
        exact ih (n + 1) h
      · next h2 =>
        rw [if_neg h2, if_neg (fun z => h2 z.2)]
        exact (rn_f (tl_at hr n)).1 h1 h2
    · next h1 =>
      rw [if_neg h1, if_neg (fun z => h1 z.1)]
      exact (rn_f (tl_at hr n)).2 h1
theorem ca_f {σ : ax_Z} {j c : Nat} (hr : rd_at σ b N (j + 1)) (hS : σ 2 4 = nI (tkS b N (EE b N j))) (h : ¬ (xc b N j c).2 = 0) : fF (ca_P σ b N j c) b N (xc b N j c) := by
  unfold xc xn xc5 at h ⊢
  unfold ca_P
  split at h
  · next h1 =>
    rw [if_pos h1, if_pos h1]
    split at h
    · next h2 =>
      rw [if_pos h2, if_pos h2]
      split at h
      · next h3 =>
        rw [if_pos h3, if_pos h3]
        refine ⟨up_s, ?_⟩
        rw [up_o (by decide)]
        unfold ca_1
        rw [up_ne (by decide)]
        exact (rd_go_t hr).2
      · next h3 =>
        rw [if_neg h3, if_neg h3]
        split at h
        · next h4 =>
          rw [if_pos h4]
          split at h
          · next h5 =>
            rw [if_pos h5, if_pos (And.intro h4 h5)]
            split at h
            · next h6 =>
              rw [if_pos h6]
              split at h
              · next h7 =>
                rw [if_pos h7, if_pos (And.intro h6 h7)]
                split at h
                · next h8 =>
                  rw [if_pos h8]
                  split at h
                  · next h9 =>
                    rw [if_pos h9, if_pos (And.intro h8 h9)]
                    split at h
                    · exact absurd rfl h
                    · next h10 =>
                      rw [if_neg h10]
                      exact rs_f (ca_5_at hr) h10
                  · next h9 =>
                    rw [if_neg h9, if_neg (fun z => h9 z.2)]
                    exact (rn_f (ca_3_at hr)).1 h8 h9
                · next h8 =>
                  rw [if_neg h8, if_neg (fun z => h8 z.1)]
                  exact (rn_f (ca_3_at hr)).2 h8
              · next h7 =>
                rw [if_neg h7, if_neg (fun z => h7 z.2)]
                exact (rn_f (ca_2_at hr)).1 h6 h7
            · next h6 =>
              rw [if_neg h6, if_neg (fun z => h6 z.1)]
              exact (rn_f (ca_2_at hr)).2 h6
          · next h5 =>
            rw [if_neg h5, if_neg (fun z => h5 z.2)]
            exact (rn_f (ca_1_at hr)).1 h4 h5
        · next h4 =>
          rw [if_neg h4, if_neg (fun z => h4 z.1)]
          exact (rn_f (ca_1_at hr)).2 h4
    · next h2 =>
      rw [if_neg h2, if_neg h2]
      exact ⟨up_s, by rw [up_o (by decide)]; exact hS⟩
  · next h1 =>
    rw [if_neg h1, if_neg h1]
    exact ⟨up_s, by rw [up_o (by decide)]; exact hS⟩
theorem rp_f {τ : ax_Z} (hr : rd_at τ b N 8) (hc : τ 4 10 = 0) : ∀ (q t : Nat), (∀ s, s < t → ca_B b N (8 + 6 * s) s = true) → 0 < q → t + q = 7 → ¬ (xr b N q t).2 = 0 → fF (rp_P τ b N q t) b N (xr b N q t) := by
  intro q
  induction q with
  | zero => intro t _ h; omega
  | succ q ih =>
    intro t ho _ htq h
    unfold xr at h ⊢
    unfold rp_P
    obtain ⟨a1, a2⟩ := rp_at hr hc t ho
    split at h
    · exact absurd rfl h
    · next h1 =>
      rw [if_neg h1, if_neg h1]
      split at h
      · next h2 =>
        have hB := (xc_ok h2).2
        have t6 := (ca_B_ok hB).2.1
        rw [if_pos h2, if_pos hB]
        exact ih (t + 1) (fun s hs => by
          by_cases e : s = t
          · rw [e]
            exact hB
          · exact ho s (by omega)) (by omega) (by omega) h
      · next h2 =>
        rw [if_neg h2, if_neg (fun z => h2 (by rw [ca_xc z]))]
        exact ca_f a1.go (rd_go_t a1).2 h
theorem xr_ok : ∀ (q t : Nat), (xr b N q t).2 = 0 → rp_B b N q t = true ∧ ∃ u, t ≤ u ∧ u < t + q ∧ tkK b N (EE b N (8 + 6 * u)) = 0 ∧ (∀ s, t ≤ s → s < u → ca_B b N (8 + 6 * s) s = true) ∧ ∀ τ, rp_P τ b N q t = hp_an (rd_go (rp_S τ b N u) N (EE b N (8 + 6 * u))) 4 := by
  intro q
  induction q with
  | zero => intro t h; exact absurd h (Nat.succ_ne_zero _)
  | succ q ih =>
    intro t h
    unfold xr at h
    unfold rp_B
    split at h
    · next h1 =>
      rw [if_pos h1]
      refine ⟨rfl, t, Nat.le_refl t, by omega, h1, fun s s1 s2 => by omega, fun τ => ?_⟩
      rw [rp_P, if_pos h1]
    · next h1 =>
      rw [if_neg h1]
      split at h
      · next h2 =>
        have hB := (xc_ok h2).2
        rw [if_pos hB]
        obtain ⟨i1, u, u1, u2, u3, u4, u5⟩ := ih (t + 1) h
        refine ⟨i1, u, by omega, by omega, u3, fun s s1 s2 => ?_, fun τ => ?_⟩
        · by_cases e : s = t
          · rw [e]
            exact hB
          · exact u4 s (by omega) s2
        · rw [rp_P, if_neg h1, if_pos hB]
          exact u5 τ
      · exact absurd h (by assumption)
theorem rp_xr : ∀ (q t : Nat), rp_B b N q t = true → (xr b N q t).2 = 0 := by
  intro q
  induction q with
  | zero => intro t h; cases h
  | succ q ih =>
    intro t h
    unfold rp_B at h
    unfold xr
    split at h
    · next h1 => rw [if_pos h1]
    · next h1 =>
      rw [if_neg h1]
      split at h
      · next h2 =>
        rw [ca_xc h2, if_pos rfl]
        exact ih (t + 1) h
      · cases h
end PX
