/-- the state behind t carts -/
def rp_S (τ : ax_Z) (b : Nat → Int32) (N : Nat) : Nat → ax_Z
  | 0 => τ
  | t + 1 => ca_P (rd_go (rp_S τ b N t) N (EE b N (8 + 6 * t))) b N (8 + 6 * t) t
/-- carts from t on, q turns left: do they go through; the state behind them -/
def rp_B (b : Nat → Int32) (N : Nat) : Nat → Nat → Bool
  | 0, _ => false
  | q + 1, t => if tkK b N (EE b N (8 + 6 * t)) = 0 then true else if ca_B b N (8 + 6 * t) t = true then rp_B b N q (t + 1) else false
def rp_P (τ : ax_Z) (b : Nat → Int32) (N : Nat) : Nat → Nat → ax_Z
  | 0, t => rp_S τ b N t
  | q + 1, t => if tkK b N (EE b N (8 + 6 * t)) = 0 then hp_an (rd_go (rp_S τ b N t) N (EE b N (8 + 6 * t))) 4 else if ca_B b N (8 + 6 * t) t = true then rp_P τ b N q (t + 1) else ca_P (rd_go (rp_S τ b N t) N (EE b N (8 + 6 * t))) b N (8 + 6 * t) t
theorem rs_S_ok {τ : ax_Z} {b : Nat → Int32} {N i : Nat} (h : rd_at τ b N i) (q : tkK b N (EE b N i) = 3) : rs_S τ N (EE b N i) = rd_go τ N (EE b N i) := by
  rw [rs_S, if_pos (by rw [h.2.2]; exact q)]
theorem ca_B_ok {b : Nat → Int32} {N j c : Nat} (h : ca_B b N j c = true) : wd_t b N j 1 = true ∧ c < 6 ∧ ¬ kd_t b N (j + 1) = 0 ∧ (tkK b N (EE b N (j + 2)) = 2 ∧ tkv b N (EE b N (j + 2)) ≤ 11) ∧ (tkK b N (EE b N (j + 3)) = 2 ∧ tkv b N (EE b N (j + 3)) ≤ 20) ∧ (tkK b N (EE b N (j + 4)) = 2 ∧ tkv b N (EE b N (j + 4)) ≤ 11) ∧ tkK b N (EE b N (j + 5)) = 3 := by
  unfold ca_B at h
  split at h
  · next h1 =>
    split at h
    · next h2 =>
      split at h
      · cases h
      · next h3 =>
        split at h
        · next h4 =>
          split at h
          · next h5 =>
            split at h
            · next h6 => exact ⟨h1, h2, h3, h4, h5, h6, of_decide_eq_true h⟩
            · cases h
          · cases h
        · cases h
    · cases h
  · cases h
theorem ca_P_ok {τ : ax_Z} {b : Nat → Int32} {N j c : Nat} (hr : rd_at τ b N (j + 1)) (h : ca_B b N j c = true) : ca_P τ b N j c = rd_go (ca_5 τ b N j c) N (EE b N (j + 5)) := by
  obtain ⟨h1, h2, h3, h4, h5, h6, h7⟩ := ca_B_ok h
  rw [ca_P, if_pos h1, if_pos h2, if_neg h3, if_pos h4, if_pos h5, if_pos h6, rs_S_ok (ca_5_at hr) h7]
theorem ca_5_c {τ : ax_Z} {b : Nat → Int32} {N j c e : Nat} : rd_go (ca_5 τ b N j c) N e 4 10 = nI (c + 1) := by
  rw [rd_go_ne (by decide)]
  unfold ca_5
  rw [up_s]
theorem rp_at {τ : ax_Z} {b : Nat → Int32} {N : Nat} (h : rd_at τ b N 8) (hc : τ 4 10 = 0) : ∀ t, (∀ s, s < t → ca_B b N (8 + 6 * s) s = true) → rd_at (rp_S τ b N t) b N (8 + 6 * t) ∧ rp_S τ b N t 4 10 = nI t := by
  intro t
  induction t with
  | zero => intro _; exact ⟨h, hc⟩
  | succ t ih =>
    intro ho
    obtain ⟨i1, i2⟩ := ih (fun s hs => ho s (by omega))
    rw [rp_S, ca_P_ok i1.go (ho t (by omega))]
    refine ⟨?_, ca_5_c⟩
    have := (ca_5_at (c := t) i1.go).go
    rw [show 8 + 6 * t + 5 + 1 = 8 + 6 * (t + 1) by omega] at this
    exact this
/-- the reader as a text begins -/
def rp_0 (σ : ax_Z) : ax_Z := ax_up (ax_up (ax_up (ax_up σ 4 10 0) 4 9 1) 2 5 0) 2 7 0
def rp_t (σ : ax_Z) (b : Nat → Int32) (N : Nat) : ax_Z := tl_P (rd_go (rp_0 σ) N (EE b N 0)) b N 6 0
theorem tl_B_s {b : Nat → Int32} {N q n : Nat} (h : tl_B b N (q + 1) n = true) : (tkK b N (EE b N (n + 1)) = 2 ∧ tkv b N (EE b N (n + 1)) ≤ 99) ∧ tl_B b N q (n + 1) = true := by
  unfold tl_B at h
  split at h
  · next z => exact ⟨z, h⟩
  · cases h
theorem tl_B_ok {b : Nat → Int32} {N : Nat} (h : tl_B b N 6 0 = true) : (∀ n, n < 6 → tkK b N (EE b N (n + 1)) = 2 ∧ tkv b N (EE b N (n + 1)) ≤ 99) ∧ tkK b N (EE b N 7) = 3 := by
  obtain ⟨q0, h1⟩ := tl_B_s h
  obtain ⟨q1, h2⟩ := tl_B_s h1
  obtain ⟨q2, h3⟩ := tl_B_s h2
  obtain ⟨q3, h4⟩ := tl_B_s h3
  obtain ⟨q4, h5⟩ := tl_B_s h4
  obtain ⟨q5, h6⟩ := tl_B_s h5
  exact ⟨ax_lt6 q0 q1 q2 q3 q4 q5, of_decide_eq_true h6⟩
theorem tl_P_s {τ : ax_Z} {b : Nat → Int32} {N q n : Nat} (h : tkK b N (EE b N (n + 1)) = 2 ∧ tkv b N (EE b N (n + 1)) ≤ 99) : tl_P τ b N (q + 1) n = tl_P τ b N q (n + 1) := by
  rw [tl_P, if_pos h]
theorem tl_P_ok {τ : ax_Z} {b : Nat → Int32} {N : Nat} (hr : rd_at τ b N 1) (h : tl_B b N 6 0 = true) : tl_P τ b N 6 0 = rd_go (tl_S τ b N 6) N (EE b N 7) := by
  obtain ⟨h1, h2⟩ := tl_B_ok h
  rw [tl_P_s (h1 0 (by decide)), tl_P_s (h1 1 (by decide)), tl_P_s (h1 2 (by decide)), tl_P_s (h1 3 (by decide)), tl_P_s (h1 4 (by decide)), tl_P_s (h1 5 (by decide)), tl_P]
  exact rs_S_ok (tl_at hr 6) h2
theorem tl_S_4 {τ : ax_Z} {b : Nat → Int32} {N n a : Nat} (h : a ≠ 2 ∧ a ≠ 5) : tl_S τ b N n a = τ a := by
  induction n with
  | zero => rfl
  | succ n ih => rw [tl_S, up_ne h.2, rd_go_ne h.1, ih]

set_option maxRecDepth 20000 in
set_option maxHeartbeats 4000000 in
theorem w_X4_readPass {Y : ax_Y} {ad : Nat → Nat} (F : ax_F Y) {l : Launch} {σ : ax_Z} {b : Nat → Int32} {N : Nat} (hN : σ 2 1 = nI N) (h400 : N ≤ 400) (hb : σ 3 = b) : ax_m Y ad l iX4_readPass 7 σ [.ref (ad 2)] (some (.int (ax_b ((wd_t b N 0 0 = true ∧ tl_B b N 6 0 = true) ∧ rp_B b N 7 0 = true)))) (if wd_t b N 0 0 = true then (if tl_B b N 6 0 = true then rp_P (rp_t σ b N) b N 7 0 else (rp_t σ b N)) else ax_up (rd_go (rp_0 σ) N (EE b N 0)) 2 7 1) := by
  have hr0 : rd_at (rp_0 σ) b N 0 := by
    unfold rp_0
    refine ⟨?_, ?_, ?_⟩
    · simp (disch := decide) only [up_o, up_ne]; exact hN
    · rw [up_o (by decide), up_s]; rfl
    · simp (disch := decide) only [up_ne]; exact hb
  refine ax_m.of F kX4_readPass.1 [some (.ref (ad 2)), none] rfl (Nat.le_of_ble_eq_true rfl) (fun x C => ?_)
  refine ax_aload_0 (pc := 0) C dX4_readPass_0 ?_
  refine ax_getR (pc := 1) C fX4_18 dX4_readPass_1 rfl rfl ?_
  refine ax_iconst (pc := 4) (v := 0) C dX4_readPass_4 (by decide) ?_
  refine ax_putI (pc := 5) C fX4_22 dX4_readPass_5 rfl rfl rfl rfl ?_
  refine ax_aload_0 (pc := 8) C dX4_readPass_8 ?_
  refine ax_getR (pc := 9) C fX4_18 dX4_readPass_9 rfl rfl ?_
  refine ax_iconst (pc := 12) (v := 1) C dX4_readPass_12 (by decide) ?_
  refine ax_putI (pc := 13) C fX4_26 dX4_readPass_13 rfl rfl rfl rfl ?_
  refine ax_aload_0 (pc := 16) C dX4_readPass_16 ?_
  refine ax_iconst (pc := 17) (v := 0) C dX4_readPass_17 (by decide) ?_
  refine ax_putI (pc := 18) C fX4_30 dX4_readPass_18 rfl rfl rfl rfl ?_
  refine ax_aload_0 (pc := 21) C dX4_readPass_21 ?_
  refine ax_iconst (pc := 22) (v := 0) C dX4_readPass_22 (by decide) ?_
  refine ax_putI (pc := 23) C fX4_33 dX4_readPass_23 rfl rfl rfl rfl ?_
  refine ax_aload_0 (pc := 26) C dX4_readPass_26 ?_
  refine ax_callVi (pc := 27) C (w_X4_readToll F hr0 h400) kX4_readToll mX4_36 dX4_readPass_27 (by decide) rfl rfl rfl rfl rfl (Nat.le_of_ble_eq_true rfl) rfl ⟨Nat.le_refl _, Nat.le_refl _⟩ ?_
  refine ax_if_ne (pc := 30) (tgt := 35) C dX4_readPass_30 (by decide) (fun h30 => ?_) (fun h30 => ?_)
  · have h30 := ax_bne h30
    rw [if_pos h30.1, if_pos h30.1, if_pos h30.2]
    have hrt : rd_at (rp_t σ b N) b N 8 := by
      unfold rp_t
      rw [tl_P_ok hr0.go h30.2]
      exact (tl_at hr0.go 6).go
    have hct : (rp_t σ b N) 4 10 = 0 := by
      unfold rp_t
      rw [tl_P_ok hr0.go h30.2, rd_go_ne (by decide), tl_S_4 (by decide), rd_go_ne (by decide)]
      unfold rp_0
      simp (disch := decide) only [up_o, up_ne, up_s]
    refine ax_iconst (pc := 35) (v := 0) C dX4_readPass_35 (by decide) ?_
    refine ax_istore_1 (pc := 36) C dX4_readPass_36 rfl ?_
    have loop : ∀ (q : Nat) (t q0 : Nat), t + q0 = 7 → (∀ s, s < t → ca_B b N (8 + 6 * s) s = true) → rp_B b N q0 t = rp_B b N 7 0 → rp_P (rp_t σ b N) b N q0 t = rp_P (rp_t σ b N) b N 7 0 → q0 < q → ax_S x Y ad 0 0 (ax_Q x Y ad (some (.int (ax_b ((wd_t b N 0 0 = true ∧ tl_B b N 6 0 = true) ∧ rp_B b N 7 0 = true)))) 96 (ax_g Y ad (rp_P (rp_t σ b N) b N 7 0)) 0 0) (rp_S (rp_t σ b N) b N t) 37 [some (.ref (ad 2)), some (.int (nI t))] [] := by
      intro q
      induction q with
      | zero => intro t q0 htq ho hB hP h2; exfalso; omega
      | succ q ih =>
        intro t q0 htq ho hB hP h2
        have ha := rp_at hrt hct t ho
        refine ax_iload_1 (pc := 37) C dX4_readPass_37 ?_
        refine ax_bipush (pc := 38) (v := 6) C dX4_readPass_38 (by decide) ?_
        refine ax_icmp_gt (pc := 40) (tgt := 78) C dX4_readPass_40 (by decide) (fun h40 => ?_) (fun h40 => ?_)
        · have ht6 : ¬ t < 7 := fun z => nI_nlt (a := 6) (b := t) (by omega) (by decide) h40
          refine ax_iconst (pc := 78) (v := 0) C dX4_readPass_78 (by decide) ?_
          exact ax_zr (pc := 79) C rfl rfl dX4_readPass_79 (ax_b0 (fun z => by have q := z.2; rw [← hB, show q0 = 0 by omega] at q; cases q)) (by rw [← hP, show q0 = 0 by omega]; rfl)
        · have ht6 : t < 7 := Nat.lt_of_not_le (fun z => h40 (nI_lt (a := 6) (b := t) (by omega) (by omega)))
          obtain ⟨q1, rfl⟩ : ∃ q1, q0 = q1 + 1 := ⟨q0 - 1, by omega⟩
          refine ax_aload_0 (pc := 43) C dX4_readPass_43 ?_
          refine ax_callVv (pc := 44) C (w_X4_step F ha.1.1 h400 ha.1.2.1 (EE_le _)) kX4_step mX4_40 dX4_readPass_44 (by decide) rfl rfl rfl rfl rfl (Nat.le_of_ble_eq_true rfl) rfl ⟨Nat.le_refl _, Nat.le_refl _⟩ ?_
          refine ax_aload_0 (pc := 47) C dX4_readPass_47 ?_
          refine ax_getI (pc := 48) C fX4_43 dX4_readPass_48 rfl rfl ?_
          refine ax_val C (rd_go_t ha.1).1 ?_
          refine ax_if_ne (pc := 51) (tgt := 63) C dX4_readPass_51 (by decide) (fun h51 => ?_) (fun h51 => ?_)
          · have h51 : ¬ tkK b N (EE b N (8 + 6 * t)) = 0 := fun z => h51 (by rw [z]; rfl)
            refine ax_aload_0 (pc := 63) C dX4_readPass_63 ?_
            refine ax_callVi (pc := 64) C (w_X4_readCart F (j := 8 + 6 * t) (c := t) ha.1.go h400 (rd_go_t ha.1).1 (rd_go_t ha.1).2 (by rw [rd_go_ne (by decide)]; exact ha.2) (by omega)) kX4_readCart mX4_49 dX4_readPass_64 (by decide) rfl rfl rfl rfl rfl (Nat.le_of_ble_eq_true rfl) rfl ⟨Nat.le_refl _, Nat.le_refl _⟩ ?_
            refine ax_if_ne (pc := 67) (tgt := 72) C dX4_readPass_67 (by decide) (fun h67 => ?_) (fun h67 => ?_)
            · have h67 := ax_bne h67
              rw [rp_B, if_neg h51, if_pos h67] at hB
              rw [rp_P, if_neg h51, if_pos h67] at hP
              refine ax_iinc_1 (pc := 72) C dX4_readPass_72 (1) (by decide) rfl ?_
              refine ax_goto (pc := 75) (tgt := 37) C dX4_readPass_75 (by decide) ?_
              refine ax_Leq (by rw [nI_1]) (ih (t + 1) q1 (by omega) (fun s hs => by
                by_cases e : s = t
                · rw [e]; exact h67
                · exact ho s (by omega)) hB hP (by omega))
            · have h67 := ax_beq h67
              refine ax_iconst (pc := 70) (v := 0) C dX4_readPass_70 (by decide) ?_
              exact ax_zr (pc := 71) C rfl rfl dX4_readPass_71 (ax_b0 (fun z => by have q := z.2; rw [← hB, rp_B, if_neg h51, if_neg h67] at q; cases q)) (by rw [← hP, rp_P, if_neg h51, if_neg h67])
          · have h51 : tkK b N (EE b N (8 + 6 * t)) = 0 := (nI_eq (b := 0) (Nat.lt_trans tkK_lt (by decide)) (by decide)).mp h51
            refine ax_aload_0 (pc := 54) C dX4_readPass_54 ?_
            refine ax_getR (pc := 55) C fX4_18 dX4_readPass_55 rfl rfl ?_
            refine ax_callVv (pc := 58) C (w_X3_beginAnew F ax_dra) kX3_beginAnew mX4_46 dX4_readPass_58 (by decide) rfl rfl rfl rfl rfl (Nat.le_of_ble_eq_true rfl) rfl ⟨Nat.le_refl _, Nat.le_refl _⟩ ?_
            refine ax_iconst (pc := 61) (v := 1) C dX4_readPass_61 (by decide) ?_
            exact ax_zr (pc := 62) C rfl rfl dX4_readPass_62 (ax_b1 ⟨h30, by rw [← hB, rp_B, if_pos h51]⟩) (by rw [← hP, rp_P, if_pos h51])
    exact loop 8 0 7 rfl (fun s hs => absurd hs (Nat.not_lt_zero s)) rfl rfl (by omega)
  · have h30 := ax_beq h30
    refine ax_iconst (pc := 33) (v := 0) C dX4_readPass_33 (by decide) ?_
    exact ax_zr (pc := 34) C rfl rfl dX4_readPass_34 (ax_b0 (fun z => h30 z.1)) (by
          by_cases hw : wd_t b N 0 0 = true
          · rw [if_pos hw, if_pos hw, if_neg (fun z => h30 ⟨hw, z⟩)]; rfl
          · rw [if_neg hw, if_neg hw]; rfl)

/-- the state behind a text -/
def rp_Z (σ : ax_Z) (b : Nat → Int32) (N : Nat) : ax_Z := (if wd_t b N 0 0 = true then (if tl_B b N 6 0 = true then rp_P (rp_t σ b N) b N 7 0 else (rp_t σ b N)) else ax_up (rd_go (rp_0 σ) N (EE b N 0)) 2 7 1)
set_option maxRecDepth 20000 in
set_option maxHeartbeats 4000000 in
theorem w_X6_pass {Y : ax_Y} {ad : Nat → Nat} (F : ax_F Y) {l : Launch} {σ : ax_Z} {b : Nat → Int32} {N : Nat} (hN : σ 2 1 = nI N) (h400 : N ≤ 400) (hb : σ 3 = b) (hi : ((wd_t b N 0 0 = true ∧ tl_B b N 6 0 = true) ∧ rp_B b N 7 0 = true) → (ax_up (rp_Z σ b N) 2 1 0) 4 9 = 0 ∨ (ax_up (rp_Z σ b N) 2 1 0) 4 9 = 1) : ax_m Y ad l iX6_pass 8 σ [.ref (ad 0)] (some (.int (if ((wd_t b N 0 0 = true ∧ tl_B b N 6 0 = true) ∧ rp_B b N 7 0 = true) then ax_up (hp_bc (ax_up (rp_Z σ b N) 2 1 0) 14 4) 25 2 0 14 10 else -1000100 - ax_up (ax_up (rp_Z σ b N) 2 1 0) 0 7 ((ax_up (rp_Z σ b N) 2 1 0) 2 7) 2 4))) (if ((wd_t b N 0 0 = true ∧ tl_B b N 6 0 = true) ∧ rp_B b N 7 0 = true) then ax_up (hp_bc (ax_up (rp_Z σ b N) 2 1 0) 14 4) 25 2 0 else ax_up (ax_up (rp_Z σ b N) 2 1 0) 0 7 ((ax_up (rp_Z σ b N) 2 1 0) 2 7)) := by
  refine ax_m.of F kX6_pass.1 [some (.ref (ad 0)), none] rfl (Nat.le_of_ble_eq_true rfl) (fun x C => ?_)
  refine ax_aload_0 (pc := 0) C dX6_pass_0 ?_
  refine ax_getR (pc := 1) C fX6_18 dX6_pass_1 rfl rfl ?_
  refine ax_callVi (pc := 4) C (show ax_m Y ad _ iX4_readPass 7 σ _ _ (rp_Z σ b N) from w_X4_readPass F hN h400 hb) kX4_readPass mX6_109 dX6_pass_4 (by decide) rfl rfl rfl rfl rfl (Nat.le_of_ble_eq_true rfl) rfl ⟨Nat.le_refl _, Nat.le_refl _⟩ ?_
  refine ax_istore_1 (pc := 7) C dX6_pass_7 rfl ?_
  refine ax_aload_0 (pc := 8) C dX6_pass_8 ?_
  refine ax_getR (pc := 9) C fX6_18 dX6_pass_9 rfl rfl ?_
  refine ax_iconst (pc := 12) (v := 0) C dX6_pass_12 (by decide) ?_
  refine ax_putI (pc := 13) C fX6_103 dX6_pass_13 rfl rfl rfl rfl ?_
  refine ax_iload_1 (pc := 16) C dX6_pass_16 ?_
  refine ax_if_ne (pc := 17) (tgt := 42) C dX6_pass_17 (by decide) (fun h17 => ?_) (fun h17 => ?_)
  · have h17 := ax_bne h17
    refine ax_aload_0 (pc := 42) C dX6_pass_42 ?_
    refine ax_getR (pc := 43) C fX6_25 dX6_pass_43 rfl rfl ?_
    refine ax_aload_0 (pc := 46) C dX6_pass_46 ?_
    refine ax_getR (pc := 47) C fX6_18 dX6_pass_47 rfl rfl ?_
    refine ax_getR (pc := 50) C fX6_121 dX6_pass_50 rfl rfl ?_
    refine ax_callVv (pc := 53) C (w_X3_become F ax_now ax_dra (by decide) (hi h17)) kX3_become mX6_124 dX6_pass_53 (by decide) rfl rfl rfl rfl rfl (Nat.le_of_ble_eq_true rfl) rfl ⟨Nat.le_refl _, Nat.le_refl _⟩ ?_
    refine ax_aload_0 (pc := 56) C dX6_pass_56 ?_
    refine ax_getR (pc := 57) C fX6_36 dX6_pass_57 rfl rfl ?_
    refine ax_iconst (pc := 60) (v := 0) C dX6_pass_60 (by decide) ?_
    refine ax_putI (pc := 61) C fX6_128 dX6_pass_61 rfl rfl rfl rfl ?_
    refine ax_aload_0 (pc := 64) C dX6_pass_64 ?_
    refine ax_getR (pc := 65) C fX6_25 dX6_pass_65 rfl rfl ?_
    refine ax_getI (pc := 68) C fX6_129 dX6_pass_68 rfl rfl ?_
    exact ax_ir (pc := 71) C rfl dX6_pass_71 (by first | with_reducible rfl | (simp only [h17, if_true, if_false, true_and, and_true, false_and, and_false, not_false_eq_true, not_true_eq_false]; done) | (simp only [h17, if_true, if_false, true_and, and_true, false_and, and_false, not_false_eq_true, not_true_eq_false]; with_reducible rfl)) (by first | with_reducible rfl | (simp only [h17, if_true, if_false, true_and, and_true, false_and, and_false, not_false_eq_true, not_true_eq_false]; done) | (simp only [h17, if_true, if_false, true_and, and_true, false_and, and_false, not_false_eq_true, not_true_eq_false]; with_reducible rfl))
  · have h17 := ax_beq h17
    refine ax_aload_0 (pc := 20) C dX6_pass_20 ?_
    refine ax_aload_0 (pc := 21) C dX6_pass_21 ?_
    refine ax_getR (pc := 22) C fX6_18 dX6_pass_22 rfl rfl ?_
    refine ax_getI (pc := 25) C fX6_113 dX6_pass_25 rfl rfl ?_
    refine ax_putI (pc := 28) C fX6_116 dX6_pass_28 rfl rfl rfl rfl ?_
    refine ax_ldc (pc := 31) C dX6_pass_31 qX6_117 ?_
    refine ax_aload_0 (pc := 33) C dX6_pass_33 ?_
    refine ax_getR (pc := 34) C fX6_18 dX6_pass_34 rfl rfl ?_
    refine ax_getI (pc := 37) C fX6_118 dX6_pass_37 rfl rfl ?_
    refine ax_isub (pc := 40) C dX6_pass_40 ?_
    exact ax_ir (pc := 41) C rfl dX6_pass_41 (by first | with_reducible rfl | (simp only [h17, if_true, if_false, true_and, and_true, false_and, and_false, not_false_eq_true, not_true_eq_false]; done) | (simp only [h17, if_true, if_false, true_and, and_true, false_and, and_false, not_false_eq_true, not_true_eq_false]; with_reducible rfl)) (by first | with_reducible rfl | (simp only [h17, if_true, if_false, true_and, and_true, false_and, and_false, not_false_eq_true, not_true_eq_false]; done) | (simp only [h17, if_true, if_false, true_and, and_true, false_and, and_false, not_false_eq_true, not_true_eq_false]; with_reducible rfl))
