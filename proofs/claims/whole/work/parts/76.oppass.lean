theorem xp_ok {b : Nat → Int32} {N : Nat} : ((wd_t b N 0 0 = true ∧ tl_B b N 6 0 = true) ∧ rp_B b N 7 0 = true) ↔ (xp_z b N).2 = 0 := by
  unfold xp_z
  constructor
  · rintro ⟨⟨h1, h2⟩, h3⟩
    rw [if_pos h1, if_pos (tl_xt 6 0 h2)]
    exact rp_xr 7 0 h3
  · intro h
    split at h
    · next h1 =>
      split at h
      · next h2 => exact ⟨⟨h1, (xt_ok 6 0 h2).2⟩, (xr_ok 7 0 h).1⟩
      · next h2 => exact absurd h h2
    · exact absurd h (Nat.succ_ne_zero _)
theorem xp_f {σ : ax_Z} {b : Nat → Int32} {N : Nat} (hN : σ 2 1 = nI N) (hb : σ 3 = b) (h : ¬ (xp_z b N).2 = 0) : fF (rp_Z σ b N) b N (xp_z b N) := by
  have r0 := rp_0_at hN hb
  unfold xp_z at h ⊢
  unfold rp_Z
  by_cases h1 : wd_t b N 0 0 = true
  · rw [if_pos h1] at h ⊢
    rw [if_pos h1]
    by_cases h2 : (xt b N 6 0).2 = 0
    · rw [if_pos h2] at h ⊢
      have ht := (xt_ok 6 0 h2).2
      rw [if_pos ht]
      obtain ⟨a1, a2, -, -⟩ := rp_t_at hN hb ht
      exact rp_f a1 a2 7 0 (fun s hs => absurd hs (Nat.not_lt_zero s)) (by decide) rfl h
    · rw [if_neg h2] at h ⊢
      rw [if_neg (fun z => h2 (tl_xt 6 0 z))]
      exact tl_f r0.go 6 0 h
  · rw [if_neg h1, if_neg h1]
    exact ⟨up_s, by rw [up_o (by decide)]; exact (rd_go_t r0).2⟩
theorem op_pass {σ : ax_Z} (R : RR σ) : OP iX6_pass iX7_pass 8 5 [] σ := by
  intro Y ad l F
  obtain ⟨⟨n0, h0, m0, hN0, hA0⟩, ⟨hI0, hI1⟩, hR, ⟨N, t1, t2, t3, t4⟩, hF, hC, hD⟩ := id R
  have T : TT (σ 3) (σ 84) N := t4
  have hZ : ∀ τ : ax_Z, mp_z τ (σ 84) N = xp_z (σ 3) N := fun τ => mp_z_x T
  have ok := xp_ok (b := σ 3) (N := N)
  have hb0 : ∀ i, i < N → (σ 84) i ≠ -1000000 := fun i hi z => by
    obtain ⟨v, v1, v2, v3⟩ := t4 i hi
    rw [v2] at z
    have := nI_pos' (n := v) (by omega)
    rw [z] at this
    exact absurd this (by decide)
  by_cases Z : (xp_z (σ 3) N).2 = 0
  · have OK := ok.mpr Z
    obtain ⟨⟨hw, ht⟩, hp⟩ := id OK
    obtain ⟨a1, a2, a3, a5⟩ := rp_t_at t1 rfl ht
    have zr : (xr (σ 3) N 7 0).2 = 0 := rp_xr 7 0 hp
    obtain ⟨-, u, -, u7, uK, uB, uP⟩ := xr_ok 7 0 zr
    have uB' : ∀ s, s < u → ca_B (σ 3) N (8 + 6 * s) s = true := fun s hs => uB s (Nat.zero_le s) hs
    have u6 : u ≤ 6 := by omega
    have eZ : rp_Z σ (σ 3) N = hp_an (rd_go (rp_S (rp_t σ (σ 3) N) (σ 3) N u) N (EE (σ 3) N (8 + 6 * u))) 4 := by
      unfold rp_Z
      rw [if_pos hw, if_pos ht]
      exact uP _
    obtain ⟨s9, sc⟩ := rp_S_c a1 a2 u uB'
    have s10 := (rp_at a1 a2 u uB').2
    have x9 : rp_Z σ (σ 3) N 4 9 = 1 := by
      rw [eZ]
      unfold hp_an
      rw [up_o (by decide), fi_ne (by decide), fi_ne (by decide), fi_ne (by decide), rd_go_ne (by decide), s9, a3]
    have x10 : rp_Z σ (σ 3) N 4 10 = nI u := by
      rw [eZ]
      unfold hp_an
      rw [up_o (by decide), fi_ne (by decide), fi_ne (by decide), fi_ne (by decide), rd_go_ne (by decide), s10]
    have x11 : rp_Z σ (σ 3) N 4 11 = 0 := by
      rw [eZ]
      unfold hp_an
      rw [up_s]
    have x5 : ∀ t, t < 6 → rp_Z σ (σ 3) N 5 t = tkv (σ 3) N (EE (σ 3) N (t + 1)) := fun t ht6 => by
      rw [eZ, an_ne (by decide), rd_go_ne (by decide), rp_S_ne (by decide), a5]
      exact tl_S_5 t ht6
    have xk : ∀ a, a = 6 ∨ a = 7 ∨ a = 8 ∨ a = 9 → rp_Z σ (σ 3) N a = rp_S (rp_t σ (σ 3) N) (σ 3) N u a := fun a ha => by rw [eZ, an_ne (by omega), rd_go_ne (by omega)]
    have xw : ∀ c, c < 7 → rp_Z σ (σ 3) N 10 c = -1000000 := fun c hc => by
      rw [eZ]
      unfold hp_an
      rw [up_ne (by decide), fi_ne (by decide), fi_ne (by decide), fi_in hc]
    have xd : ∀ c, c < 7 → rp_Z σ (σ 3) N 11 c = 0 := fun c hc => by
      rw [eZ]
      unfold hp_an
      rw [up_ne (by decide), fi_ne (by decide), fi_in hc]
    have xf : ∀ a, a < 2 ∨ a = 3 ∨ a = 12 ∨ 14 ≤ a → rp_Z σ (σ 3) N a = σ a := fun a ha => rp_Z_ne ha
    -- the reference's numbers
    have hwu : ¬ wd_t (σ 3) N (8 + 6 * (0 + u)) 1 = true := fun z => by
      rw [Nat.zero_add] at z
      have := wd_t_K z
      rw [uK] at this
      exact absurd this (by decide)
    have eL : ∀ τ : ax_Z, mp_L τ (σ 84) N = (pS (σ 84) N (mp_3 τ (σ 84) N) u, (8 + 6 * u, 0)) := fun τ => by
      unfold mp_L
      have q := pm_L_S T (τ := mp_3 τ (σ 84) N) u 0 (7 - u) (fun s _ s2 => uB' s (by omega)) hwu
      rw [show u + 1 + (7 - u) = 8 by omega, Nat.zero_add] at q
      have z3 : mp_z3 (σ 84) N = (8 + 6 * 0, 0) := by
        rw [mp_z3_x T, if_pos hw, (xt_ok 6 0 (tl_xt 6 0 ht)).1]
      rw [z3]
      exact q
    have WX := w_X6_pass (ad := ad) F (l := l) (σ := σ) t1 t3 rfl (fun _ => Or.inr (by rw [up_ne (by decide)]; exact x9))
    generalize hη : rp_Z σ (σ 3) N = η at WX x9 x10 x11 x5 xk xw xd xf
    have f0 : ∀ a, 24 ≤ a → a ≠ 25 → ax_up (hp_bc (ax_up η 2 1 0) 14 4) 25 2 0 a = σ a := fun a a1 a2 => by rw [up_ne a2, hp_bc_ne (by omega), up_ne (by omega), xf a (by omega)]
    have WM := w_X7_pass (ad := ad) F (l := l) (σ := ax_up (hp_bc (ax_up η 2 1 0) 14 4) 25 2 0) (b := σ 84) (N := N) (by rw [f0 77 (by decide) (by decide)]; exact t2) t3 (f0 84 (by decide) (by decide)) hb0
    have zz : (mp_z (ax_up (hp_bc (ax_up η 2 1 0) 14 4) 25 2 0) (σ 84) N).2 = 0 := by rw [hZ]; exact Z
    generalize hξ : ax_up (hp_bc (ax_up η 2 1 0) 14 4) 25 2 0 = ξ at WX WM f0 zz
    have g0 : mp_3 ξ (σ 84) N 82 0 = nI 0 := mp_3_82
    obtain ⟨p0, pc, pj⟩ := pS_c T g0 u uB'
    have z1 : mp_z1 (σ 84) N = (1, 0) := by
      unfold mp_z1 pm_must
      rw [if_pos rfl, decide_eq_true (T.w0.mpr hw)]
      rfl
    have toll : ∀ t, t < 6 → mp_3 ξ (σ 84) N 82 (2 + t) = tkv (σ 3) N (EE (σ 3) N (t + 1)) := fun t ht6 => by
      unfold mp_3
      rw [(pm_tf_82 6).1 t ht6, z1, pm_tz_x T ht t (by omega)]
      exact pm_val_x T ((tl_B_ok ht).1 t ht6).1
    have low : ∀ j, j < 44 → (j < 2 ∨ 8 ≤ j) → mp_3 ξ (σ 84) N 82 j = 0 := fun j hj h8 => by
      unfold mp_3
      rw [(pm_tf_82 6).2 j (by omega)]
      unfold mp_0
      exact fin_in (by omega) (by omega)
    have e1 : (mp_L ξ (σ 84) N).1 = pS (σ 84) N (mp_3 ξ (σ 84) N) u := by rw [eL]
    -- the pass of 44 numbers
    have f82 : ∀ j, j < 44 → mp_ok ξ (σ 84) N 81 j = pS (σ 84) N (mp_3 ξ (σ 84) N) u 82 j := fun j hj => by
      unfold mp_ok mp_r
      rw [cpn_in (by omega) (by omega), Nat.sub_zero, Nat.zero_add, up_ne (by decide), up_ne (by decide), mr_ne (by decide), e1]
    have fe : ∀ a, a ≠ 81 → a ≠ 77 → a ≠ 82 → mp_ok ξ (σ 84) N a = ξ a := fun a b1 b2 b3 => by
      unfold mp_ok mp_r
      rw [cpn_ne b1, up_ne b2, up_ne b2, mr_ne b2, mp_L_ne b3 b2]
    have f7 : ∀ j, j ≠ 0 ∧ j ≠ 7 ∧ j ≠ 9 ∧ j ≠ 11 ∧ (j < 13 ∨ 20 ≤ j) → mp_ok ξ (σ 84) N 77 j = ξ 77 j := fun j hj => by
      unfold mp_ok mp_r
      rw [cpn_ne (by decide), up_o (by omega), up_o (by omega), mr_77 (by omega), mp_L_77 (by omega)]
    have f77 : mp_ok ξ (σ 84) N 77 7 = 1 := by
      unfold mp_ok
      rw [cpn_ne (by decide), up_o (by decide), up_s]
    have f79 : mp_ok ξ (σ 84) N 77 9 = 0 := by
      unfold mp_ok
      rw [cpn_ne (by decide), up_s]
    have f711 : mp_ok ξ (σ 84) N 77 11 = 0 := by
      unfold mp_ok mp_r
      rw [cpn_ne (by decide), up_o (by decide), up_o (by decide), mr_77 (by decide), mp_L_11]
    have v5 : ∀ c, c < u → pS (σ 84) N (mp_3 ξ (σ 84) N) u 82 (8 + 6 * c + 5) = 0 := fun c hc => by
      rw [pj _ ⟨by omega, Or.inr ⟨c, rfl⟩⟩]
      exact low _ (by omega) (by omega)
    have v1 : pS (σ 84) N (mp_3 ξ (σ 84) N) u 82 1 = 0 := by
      rw [pj 1 ⟨by decide, Or.inl (by decide)⟩]
      exact low 1 (by decide) (by decide)
    have vt : ∀ t, t < 6 → pS (σ 84) N (mp_3 ξ (σ 84) N) u 82 (2 + t) = tkv (σ 3) N (EE (σ 3) N (t + 1)) := fun t ht6 => by
      rw [pj _ ⟨by omega, Or.inl (by omega)⟩]
      exact toll t ht6
    have bd : ∀ (i : Nat) (most : Nat), most < 100 → tkK (σ 3) N (EE (σ 3) N i) = 2 → tkv (σ 3) N (EE (σ 3) N i) ≤ nI most → ∃ a : Nat, a ≤ most ∧ tkv (σ 3) N (EE (σ 3) N i) = nI a := fun i most hm hK hl => by
      obtain ⟨q1, q2⟩ := T.num hK
      rw [q1] at q2
      obtain ⟨j, hj, ej⟩ := nI_of (Int32.not_lt.mpr q2)
      rw [ej] at hl
      exact ⟨j, (nI_leI hj (by omega)).mp hl, ej⟩
    have wf : WF (mp_ok ξ (σ 84) N 81) u 0 := by
      refine ⟨by rw [f82 0 (by decide)]; exact p0, u6, by rw [f82 1 (by decide), v1]; rfl, by decide, fun t ht6 => ?_, fun c hc => ?_⟩
      · rw [f82 _ (by omega), vt t ht6]
        have q := (tl_B_ok ht).1 t ht6
        exact bd (t + 1) 99 (by decide) q.1 q.2
      · obtain ⟨y0, y1, y2, y3, y4⟩ := pc c hc
        obtain ⟨b1, b2, b3, b4, b5, b6, b7⟩ := ca_B_ok (uB' c hc)
        rw [f82 (8 + 6 * c + 0) (by omega), f82 (8 + 6 * c + 1) (by omega), f82 (8 + 6 * c + 2) (by omega), f82 (8 + 6 * c + 3) (by omega), f82 (8 + 6 * c + 4) (by omega), f82 (8 + 6 * c + 5) (by omega), y0, y1, y2, y3, y4, v5 c hc]
        refine ⟨⟨_, by omega, ?_, rfl⟩, bd _ 11 (by decide) b4.1 b4.2, bd _ 20 (by decide) b5.1 b5.2, bd _ 11 (by decide) b6.1 b6.2, Or.inl ⟨rfl, rfl⟩⟩
        have := kd_t_lt (b := σ 3) (N := N) (i := 8 + 6 * c + 1)
        omega
    have xq : XP (ax_up η 2 1 0) 4 (mp_ok ξ (σ 84) N 81) u := by
      refine ⟨?_, ?_, fun t ht6 => ?_, fun c k hc hk => ?_, fun c hc => ?_⟩
      · rw [up_ne (by decide), x10, f82 0 (by decide), p0]
      · rw [up_ne (by decide), x11, f82 1 (by decide), v1]
      · rw [up_ne (by decide), f82 _ (by omega), vt t ht6]
        exact x5 t ht6
      · obtain ⟨y0, y1, y2, y3, y4⟩ := pc c hc
        obtain ⟨w0, w1, w2, w3⟩ := sc c hc
        rw [up_ne (by omega), f82 _ (by omega)]
        rcases (show k = 0 ∨ k = 1 ∨ k = 2 ∨ k = 3 ∨ k = 4 ∨ k = 5 by omega) with rfl | rfl | rfl | rfl | rfl | rfl
        · rw [y0, xk (4 + 2 + 0) (by decide)]
          exact w0
        · rw [y1, xk (4 + 2 + 1) (by decide)]
          exact w1
        · rw [y2, xk (4 + 2 + 2) (by decide)]
          exact w2
        · rw [y3, xk (4 + 2 + 3) (by decide)]
          exact w3
        · rw [y4]
          exact xw c (by omega)
        · rw [v5 c hc]
          exact xd c (by omega)
      · rw [up_ne (by decide), xf (4 + 8) (by decide)]
        exact hD c hc
    have xb := xq.bc (p := 14) u6 (by decide)
    have hx14 : ∀ a, 14 ≤ a → a < 24 → ξ a = hp_bc (ax_up η 2 1 0) 14 4 a := fun a b1 b2 => by rw [← hξ, up_ne (by omega)]
    have hxl : ∀ a, a < 14 → a ≠ 2 → (a < 2 ∨ a = 3 ∨ a = 12) → ξ a = σ a := fun a b1 b2 b3 => by rw [← hξ, up_ne (by omega), hp_bc_ne (by omega), up_ne b2, xf a (by omega)]
    refine ⟨_, ξ, mp_ok ξ (σ 84) N, WX.ans rfl (by rw [if_pos OK]), WM.ans ?_ (by rw [if_pos zz]), ?_⟩
    · rw [if_pos zz, if_pos OK, wf.1, hx14 14 (by decide) (by decide), bc_10, up_ne (by decide)]
      exact x10.symm
    · refine ⟨⟨u, 0, 0, ⟨wf, xb.fr (fun a b1 b2 => ?_), ?_, ?_⟩, ⟨?_, ?_, by decide, fun i hi => absurd hi (Nat.not_lt_zero i)⟩⟩, ⟨?_, ?_⟩, ?_, ⟨0, ?_, ?_, by decide, fun i hi => absurd hi (Nat.not_lt_zero i)⟩, ?_, ?_, ?_⟩
      · rw [fe a (by omega) (by omega) (by omega), hx14 a b1 (by omega)]
      · rw [fe 14 (by decide) (by decide) (by decide), hx14 14 (by decide) (by decide), bc_9, up_ne (by decide), x9, f77]
      · exact Or.inr f77
      · rw [fe 25 (by decide) (by decide) (by decide), ← hξ, up_s]
        rfl
      · rw [f79]
        rfl
      · refine hI0.fr (fun a b1 b2 => ?_) ?_ (fun j _ => ?_) (Or.inr f77)
        · rw [fe a (by omega) (by omega) (by omega), f0 a (by omega) (by omega)]
        · rw [fe 93 (by decide) (by decide) (by decide), f0 93 (by decide) (by decide)]
        · rw [fe 94 (by decide) (by decide) (by decide), f0 94 (by decide) (by decide)]
      · refine hI1.fr (fun a b1 b2 => ?_) ?_ (fun j _ => ?_) (Or.inr f77)
        · rw [fe a (by omega) (by omega) (by omega), f0 a (by omega) (by omega)]
        · rw [fe 93 (by decide) (by decide) (by decide), f0 93 (by decide) (by decide)]
        · rw [fe 94 (by decide) (by decide) (by decide), f0 94 (by decide) (by decide)]
      · refine hR.fr (fun a b1 b2 => ?_) ?_ ?_ ?_
        · rw [fe a (by omega) (by omega) (by omega), f0 a (by omega) (by omega)]
        · rw [fe 78 (by decide) (by decide) (by decide), f0 78 (by decide) (by decide)]
        · rw [fe 79 (by decide) (by decide) (by decide), f0 79 (by decide) (by decide)]
        · rw [fe 80 (by decide) (by decide) (by decide), f0 80 (by decide) (by decide)]
      · rw [fe 2 (by decide) (by decide) (by decide), ← hξ, up_ne (by decide), hp_bc_ne (by decide), up_s]
        rfl
      · rw [f711]
        rfl
      · unfold rF
        rw [fe 0 (by decide) (by decide) (by decide), hxl 0 (by decide) (by decide) (by decide), f7 12 (by decide), f7 1 (by decide), f0 77 (by decide) (by decide)]
        exact hF
      · refine hC.fr ?_ ?_ ?_ ?_
        · rw [fe 39 (by decide) (by decide) (by decide), f0 39 (by decide) (by decide)]
        · rw [f7 34 (by decide), f0 77 (by decide) (by decide)]
        · rw [fe 40 (by decide) (by decide) (by decide), f0 40 (by decide) (by decide)]
        · rw [fe 95 (by decide) (by decide) (by decide), f0 95 (by decide) (by decide)]
      · refine hD.fr ?_
        rw [fe 12 (by decide) (by decide) (by decide), hxl 12 (by decide) (by decide) (by decide)]
  · have OK : ¬ ((wd_t (σ 3) N 0 0 = true ∧ tl_B (σ 3) N 6 0 = true) ∧ rp_B (σ 3) N 7 0 = true) := fun z => Z (ok.mp z)
    obtain ⟨q7, q4⟩ := xp_f t1 rfl Z
    have xf : ∀ a, a < 2 ∨ a = 3 ∨ a = 12 ∨ 14 ≤ a → rp_Z σ (σ 3) N a = σ a := fun a ha => rp_Z_ne ha
    have WX := w_X6_pass (ad := ad) F (l := l) (σ := σ) t1 t3 rfl (fun z => absurd z OK)
    generalize hη : rp_Z σ (σ 3) N = η at WX q7 q4 xf
    have hξ7 : ax_up η 2 1 0 2 7 = nI (xp_z (σ 3) N).2 := by rw [up_o (by decide)]; exact q7
    have f0 : ∀ a, a = 3 ∨ a = 12 ∨ 14 ≤ a ∨ a = 1 → ax_up (ax_up η 2 1 0) 0 7 (ax_up η 2 1 0 2 7) a = σ a := fun a ha => by rw [up_ne (by omega), up_ne (by omega), xf a (by omega)]
    have WM := w_X7_pass (ad := ad) F (l := l) (σ := ax_up (ax_up η 2 1 0) 0 7 (ax_up η 2 1 0 2 7)) (b := σ 84) (N := N) (by rw [f0 77 (by decide)]; exact t2) t3 (f0 84 (by decide)) hb0
    have zz : ¬ (mp_z (ax_up (ax_up η 2 1 0) 0 7 (ax_up η 2 1 0 2 7)) (σ 84) N).2 = 0 := by rw [hZ]; exact Z
    refine ⟨_, _, _, WX.ans rfl (by rw [if_neg OK]), WM.ans ?_ (by rw [if_neg zz]), ?_⟩
    · rw [if_neg zz, if_neg OK, hZ, up_ne (by decide), up_o (by decide), q4]
      congr 2
      exact T.ss _
    · generalize hξ : ax_up (ax_up η 2 1 0) 0 7 (ax_up η 2 1 0 2 7) = ξ at f0
      have zx := hZ ξ
      have fe : ∀ a, a ≠ 77 → a ≠ 82 → ax_up (mp_r ξ (σ 84) N) 77 12 (nI (mp_z ξ (σ 84) N).2) a = ξ a := fun a b2 b3 => by
        unfold mp_r
        rw [up_ne b2, mr_ne b2, mp_L_ne b3 b2]
      have f7 : ∀ j, j ≠ 0 ∧ j ≠ 11 ∧ j ≠ 12 ∧ (j < 13 ∨ 20 ≤ j) → ax_up (mp_r ξ (σ 84) N) 77 12 (nI (mp_z ξ (σ 84) N).2) 77 j = ξ 77 j := fun j hj => by
        unfold mp_r
        rw [up_o (by omega), mr_77 (by omega), mp_L_77 (by omega)]
      have f711 : ax_up (mp_r ξ (σ 84) N) 77 12 (nI (mp_z ξ (σ 84) N).2) 77 11 = 0 := by
        unfold mp_r
        rw [up_o (by decide), mr_77 (by decide), mp_L_11]
      generalize hτ : ax_up (mp_r ξ (σ 84) N) 77 12 (nI (mp_z ξ (σ 84) N).2) = τ at fe f7 f711
      have g : ∀ a, a = 3 ∨ a = 12 ∨ 14 ≤ a → a ≠ 77 → a ≠ 82 → τ a = σ a := fun a b1 b2 b3 => by rw [fe a b2 b3, f0 a (by omega)]
      have g7 : ∀ j, j ≠ 0 ∧ j ≠ 11 ∧ j ≠ 12 ∧ (j < 13 ∨ 20 ≤ j) → τ 77 j = σ 77 j := fun j hj => by rw [f7 j hj, f0 77 (by decide)]
      refine ⟨⟨n0, h0, m0, hN0.fr (fun a b1 b2 => g a (by omega) (by omega) (by omega)) (g 81 (by decide) (by decide) (by decide)) (g7 7 (by decide)), hA0.fr (by rw [g 25 (by decide) (by decide) (by decide)]) (g 26 (by decide) (by decide) (by decide)) (g 27 (by decide) (by decide) (by decide)) (g7 9 (by decide)) (g 83 (by decide) (by decide) (by decide)) (g 81 (by decide) (by decide) (by decide))⟩, ⟨hI0.fr (fun a b1 b2 => g a (by omega) (by omega) (by omega)) (by rw [g 93 (by decide) (by decide) (by decide)]) (fun j _ => by rw [g 94 (by decide) (by decide) (by decide)]) (Or.inl (g7 7 (by decide))), hI1.fr (fun a b1 b2 => g a (by omega) (by omega) (by omega)) (by rw [g 93 (by decide) (by decide) (by decide)]) (fun j _ => by rw [g 94 (by decide) (by decide) (by decide)]) (Or.inl (g7 7 (by decide)))⟩,
        hR.fr (fun a b1 b2 => g a (by omega) (by omega) (by omega)) (g 78 (by decide) (by decide) (by decide)) (g 79 (by decide) (by decide) (by decide)) (g 80 (by decide) (by decide) (by decide)), ⟨0, ?_, ?_, by decide, fun i hi => absurd hi (Nat.not_lt_zero i)⟩, ?_, hC.fr (by rw [g 39 (by decide) (by decide) (by decide)]) (g7 34 (by decide)) (g 40 (by decide) (by decide) (by decide)) (g 95 (by decide) (by decide) (by decide)), hD.fr (g 12 (by decide) (by decide) (by decide))⟩
      · rw [fe 2 (by decide) (by decide), ← hξ, up_ne (by decide), up_s]
        rfl
      · rw [f711]
        rfl
      · refine ⟨?_, ?_⟩
        · rw [fe 0 (by decide) (by decide), ← hτ, up_s, zx, ← hξ, up_s, hξ7]
        · rw [fe 0 (by decide) (by decide), g7 1 (by decide), ← hξ, up_o (by decide), up_ne (by decide), xf 0 (by decide)]
          exact hF.2
