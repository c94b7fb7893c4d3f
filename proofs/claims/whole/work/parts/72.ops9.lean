/-! calls on both sides, ninth part: undo -/
theorem rA.back {σ τ : ax_Z} {n m : Nat} (H : rA σ n (m + 1)) (h6 : n ≤ 6) (e25 : τ 25 2 = nI m) (e9 : τ 77 9 = nI m) (e26 : τ 26 = σ 26) (e27 : τ 27 = σ 27) (e83 : τ 83 = σ 83) (e81 : ∀ j, j < 44 → τ 81 j = σ 83 (44 * m + j)) : rA τ n m := by
  obtain ⟨h1, h2, h3, h4⟩ := H
  refine ⟨e25, e9, by omega, fun i hi => ?_⟩
  have i1 := h4 i (by omega)
  rw [e26, e27]
  rw [sn_lt (by omega), sn_lt (by omega)] at i1
  rw [sn_lt hi, e83]
  refine AR.c h6 i1 (fun j hj => rfl) (fun j hj => ?_)
  by_cases e : i + 1 = m
  · rw [sn_ge (by omega), e81 j hj, e]
  · rw [sn_lt (by omega), e83]
theorem wb_6 {σ : ax_Z} {p h c b : Nat} : hp_wb σ p h c (p + 6) b = if b < c ∧ σ (p + 6) b = nI h then -1000000 else σ (p + 6) b := by
  unfold hp_wb
  by_cases e : b < c ∧ σ (p + 6) b = nI h
  · rw [if_pos ⟨rfl, e⟩, if_pos e]
  · rw [if_neg (fun z => e z.2), if_neg (by omega), if_neg e]
theorem wb_7 {σ : ax_Z} {p h c b : Nat} : hp_wb σ p h c (p + 7) b = if b < c ∧ σ (p + 6) b = nI h then 0 else σ (p + 7) b := by
  unfold hp_wb
  rw [if_neg (by omega)]
  by_cases e : b < c ∧ σ (p + 6) b = nI h
  · rw [if_pos ⟨rfl, e⟩, if_pos e]
  · rw [if_neg (fun z => e z.2), if_neg e]
theorem wb_ne {σ : ax_Z} {p h c a : Nat} (ha : a ≠ p + 6 ∧ a ≠ p + 7) : hp_wb σ p h c a = σ a := by
  funext b
  unfold hp_wb
  rw [if_neg (fun z => ha.1 z.1), if_neg (fun z => ha.2 z.1)]
theorem op_undo_0 {σ : ax_Z} (R : RR σ) (hm : σ 25 2 = 0) : OP iX6_undo iX7_undo 0 0 [] σ := by
  intro Y ad l F
  obtain ⟨⟨n, h, m, hN, hA⟩, -⟩ := id R
  have m0 : σ 77 9 = 0 := by rw [hA.2.1, ← hA.1]; exact hm
  exact ⟨_, _, _, w_X6_undo_0 F hm, w_X7_undo_0 F m0, R.sm sm.u0⟩
theorem op_undo_s {σ : ax_Z} (R : RR σ) (hm : ¬ σ 25 2 = 0) : OP iX6_undo iX7_undo 2 0 [] σ := by
  intro Y ad l F
  obtain ⟨⟨n, h, m1, hN, hA⟩, -⟩ := id R
  obtain ⟨wf, xp, e9, b9⟩ := id hN
  have h6 := wf.2.1
  obtain ⟨m, rfl⟩ : ∃ m, m1 = m + 1 := by
    refine ⟨m1 - 1, ?_⟩
    have : m1 ≠ 0 := fun z => hm (by rw [hA.1, z]; rfl)
    omega
  have h24 := hA.2.2.1
  have A := hA.2.2.2 m (by omega)
  rw [sn_lt (by omega), sn_ge (by omega)] at A
  obtain ⟨h', wf', A⟩ := A
  have wfb : ∀ (τ : ax_Z), (∀ j, j < 44 → τ 81 j = σ 83 (44 * m + j)) → WF (τ 81) n h' := fun τ e => wf'.c e
  rcases A with ⟨c, c1, c2, c3, c4⟩ | ⟨c1, c2, c3, c4, c5⟩
  · have t0 : ∀ a, a ≠ 25 → a ≠ 19 → ax_up (ax_up σ 25 2 (nI m)) 19 c (σ 27 m) a = σ a := fun a a1 a2 => by rw [up_ne a2, up_ne a1]
    refine ⟨_, _, _, w_X6_undo_p F (xp.1.trans wf.1) h6 hA.1 (by omega) c1 c2, w_X7_undo_s F (m := m) (by rw [t0 77 (by decide) (by decide)]; exact hA.2.1) (by omega), ?_⟩
    generalize hτ : cpn (ax_up (ax_up (ax_up (ax_up σ 25 2 (nI m)) 19 c (σ 27 m)) 77 0 0) 77 9 (nI m)) 83 (44 * m) 81 0 44 = τ
    have e : ∀ a, a ≠ 25 ∧ a ≠ 19 ∧ a ≠ 77 ∧ a ≠ 81 → τ a = σ a := fun a ha => by rw [← hτ, cpn_ne ha.2.2.2, up_ne ha.2.2.1, up_ne ha.2.2.1, t0 a ha.1 ha.2.1]
    have e7 : ∀ j, j ≠ 0 → j ≠ 9 → τ 77 j = σ 77 j := fun j j0 j9 => by rw [← hτ, cpn_ne (by decide), up_o j9, up_o j0, t0 77 (by decide) (by decide)]
    have e81 : ∀ j, j < 44 → τ 81 j = σ 83 (44 * m + j) := fun j hj => by
      rw [← hτ, cpn_in (by omega) (by omega), up_ne (by decide), up_ne (by decide), t0 83 (by decide) (by decide), Nat.sub_zero]
    have e25 : τ 25 2 = nI m := by rw [← hτ, cpn_ne (by decide), up_ne (by decide), up_ne (by decide), up_ne (by decide), up_s]
    have e99 : τ 77 9 = nI m := by rw [← hτ, cpn_ne (by decide), up_s]
    have e19 : ∀ d, d ≠ c → τ 19 d = σ 19 d := fun d hd => by rw [← hτ, cpn_ne (by decide), up_ne (by decide), up_ne (by decide), up_o hd, up_ne (by decide)]
    have e19' : τ 19 c = σ 27 m := by rw [← hτ, cpn_ne (by decide), up_ne (by decide), up_ne (by decide), up_s]
    have rA' : rA τ n m := hA.back h6 e25 e99 (e 26 (by decide)) (e 27 (by decide)) (e 83 (by decide)) e81
    refine R.ac (n := n) (h := h') (m := m) ⟨wfb τ e81, ⟨?_, ?_, fun t ht => ?_, fun d k hd hk => ?_, fun d hd => ?_⟩, ?_, ?_⟩ rA' (fun a a1 a2 a3 a4 a5 a6 => e a (by omega)) (fun j j0 j9 _ _ => e7 j j0 j9)
    · rw [e 14 (by decide), e81 0 (by decide), xp.1]
      exact c4 0 (by omega) (by omega)
    · rw [e 14 (by decide), e81 1 (by decide), xp.2.1]
      exact c4 1 (by omega) (by omega)
    · rw [e 15 (by decide), e81 _ (by omega)]
      exact (xp.2.2.1 t ht).trans (c4 _ (by omega) (by omega))
    · rw [e81 _ (by omega)]
      by_cases ek : k = 3
      · subst ek
        by_cases ed : d = c
        · subst ed
          exact e19'.trans c3
        · exact (e19 d ed).trans ((xp.2.2.2.1 d 3 hd (by decide)).trans (c4 _ (by omega) (by omega)))
      · rw [e (14 + 2 + k) (by omega)]
        exact (xp.2.2.2.1 d k hd hk).trans (c4 _ (by omega) (by omega))
    · rw [e 22 (by decide)]
      exact xp.2.2.2.2 d hd
    · rw [e 14 (by decide), e7 7 (by decide) (by decide)]
      exact e9
    · rw [e7 7 (by decide) (by decide)]
      exact b9
  · have hr : σ 14 11 = nI (h' + 1) := xp.2.1.trans c3
    have t0 : ∀ a, a ≠ 25 → a ≠ 14 → a ≠ 20 → a ≠ 21 → a ≠ 23 → hp_bk (ax_up σ 25 2 (nI m)) 14 n h' a = σ a := fun a a1 a2 a3 a4 a5 => by
      unfold hp_bk
      rw [wb_ne ⟨a3, a4⟩, up_ne a5, up_ne a2, up_ne a1]
    have t25 : hp_bk (ax_up σ 25 2 (nI m)) 14 n h' 25 2 = nI m := by
      unfold hp_bk
      rw [wb_ne (by decide), up_ne (by decide), up_ne (by decide), up_s]
    have t14 : ∀ j, j ≠ 11 → hp_bk (ax_up σ 25 2 (nI m)) 14 n h' 14 j = σ 14 j := fun j hj => by
      unfold hp_bk
      rw [wb_ne (by decide), up_ne (by decide), up_o hj, up_ne (by decide)]
    have t11 : hp_bk (ax_up σ 25 2 (nI m)) 14 n h' 14 11 = nI h' := by
      unfold hp_bk
      rw [wb_ne (by decide), up_ne (by decide), up_s]
    have t20 : ∀ b, hp_bk (ax_up σ 25 2 (nI m)) 14 n h' 20 b = if b < n ∧ σ 20 b = nI h' then -1000000 else σ 20 b := fun b => by
      unfold hp_bk
      have q := wb_6 (σ := ax_up (ax_up (ax_up σ 25 2 (nI m)) 14 11 (nI h')) (14 + 9) h' (-1)) (p := 14) (h := h') (c := n) (b := b)
      rw [up_ne (by decide), up_ne (by decide), up_ne (by decide)] at q
      exact q
    have t21 : ∀ b, hp_bk (ax_up σ 25 2 (nI m)) 14 n h' 21 b = if b < n ∧ σ 20 b = nI h' then 0 else σ 21 b := fun b => by
      unfold hp_bk
      have q := wb_7 (σ := ax_up (ax_up (ax_up σ 25 2 (nI m)) 14 11 (nI h')) (14 + 9) h' (-1)) (p := 14) (h := h') (c := n) (b := b)
      rw [up_ne (show (14 + 6 : Nat) ≠ 14 + 9 by decide), up_ne (show (14 + 6 : Nat) ≠ 14 by decide), up_ne (show (14 + 6 : Nat) ≠ 25 by decide), up_ne (show (14 + 7 : Nat) ≠ 14 + 9 by decide), up_ne (show (14 + 7 : Nat) ≠ 14 by decide), up_ne (show (14 + 7 : Nat) ≠ 25 by decide)] at q
      exact q
    have WX := w_X6_undo_h (ad := ad) F (l := l) (σ := σ) (xp.1.trans wf.1) h6 hA.1 (by omega) hr c2 c1
    generalize hη : hp_bk (ax_up σ 25 2 (nI m)) 14 n h' = η at WX t0 t25 t14 t11 t20 t21
    refine ⟨_, _, _, WX, w_X7_undo_s F (m := m) (by rw [t0 77 (by decide) (by decide) (by decide) (by decide) (by decide)]; exact hA.2.1) (by omega), ?_⟩
    generalize hτ : cpn (ax_up (ax_up η 77 0 0) 77 9 (nI m)) 83 (44 * m) 81 0 44 = τ
    have ex : ∀ a, a ≠ 77 → a ≠ 81 → τ a = η a := fun a a1 a2 => by rw [← hτ, cpn_ne a2, up_ne a1, up_ne a1]
    have e : ∀ a, a ≠ 25 ∧ a ≠ 14 ∧ a ≠ 20 ∧ a ≠ 21 ∧ a ≠ 23 ∧ a ≠ 77 ∧ a ≠ 81 → τ a = σ a := fun a ha => by rw [ex a (by omega) (by omega), t0 a (by omega) (by omega) (by omega) (by omega) (by omega)]
    have e7 : ∀ j, j ≠ 0 → j ≠ 9 → τ 77 j = σ 77 j := fun j j0 j9 => by rw [← hτ, cpn_ne (by decide), up_o j9, up_o j0, t0 77 (by decide) (by decide) (by decide) (by decide) (by decide)]
    have e81 : ∀ j, j < 44 → τ 81 j = σ 83 (44 * m + j) := fun j hj => by
      rw [← hτ, cpn_in (by omega) (by omega), up_ne (by decide), up_ne (by decide), t0 83 (by decide) (by decide) (by decide) (by decide) (by decide), Nat.sub_zero]
    have e99 : τ 77 9 = nI m := by rw [← hτ, cpn_ne (by decide), up_s]
    have rA' : rA τ n m := hA.back h6 (by rw [ex 25 (by decide) (by decide)]; exact t25) e99 (e 26 (by decide)) (e 27 (by decide)) (e 83 (by decide)) e81
    refine R.ac (n := n) (h := h') (m := m) ⟨wfb τ e81, ⟨?_, ?_, fun t ht => ?_, fun d k hd hk => ?_, fun d hd => ?_⟩, ?_, ?_⟩ rA' (fun a a1 a2 a3 a4 a5 a6 => e a (by omega)) (fun j j0 j9 _ _ => e7 j j0 j9)
    · rw [ex 14 (by decide) (by decide), t14 10 (by decide), e81 0 (by decide), xp.1]
      exact c4 0 (by decide) (by decide)
    · rw [ex 14 (by decide) (by decide), t11, e81 1 (by decide)]
      exact wf'.2.2.1.symm
    · rw [e 15 (by decide), e81 _ (by omega)]
      exact (xp.2.2.1 t ht).trans (c4 _ (by omega) (by omega))
    · obtain ⟨d1, d2⟩ := c5 d hd
      rw [e81 _ (by omega)]
      have x4 : σ 20 d = σ 81 (8 + 6 * d + 4) := xp.2.2.2.1 d 4 hd (by decide)
      have x5 : σ 21 d = σ 81 (8 + 6 * d + 5) := xp.2.2.2.1 d 5 hd (by decide)
      rcases (show k < 4 ∨ k = 4 ∨ k = 5 by omega) with k4 | rfl | rfl
      · rw [e (14 + 2 + k) (by omega)]
        exact (xp.2.2.2.1 d k hd hk).trans (d1 k k4)
      · show τ 20 d = _
        rw [ex 20 (by decide) (by decide), t20, x4]
        rcases d2 with ⟨g1, g2, g3⟩ | ⟨g1, g2, g3⟩
        · rw [if_pos ⟨hd, g1⟩]
          exact g2.symm
        · rw [if_neg (fun z => g1 z.2)]
          exact g2
      · show τ 21 d = _
        rw [ex 21 (by decide) (by decide), t21, x4, x5]
        rcases d2 with ⟨g1, g2, g3⟩ | ⟨g1, g2, g3⟩
        · rw [if_pos ⟨hd, g1⟩]
          exact g3.symm
        · rw [if_neg (fun z => g1 z.2)]
          exact g3
    · rw [e 22 (by decide)]
      exact xp.2.2.2.2 d hd
    · rw [ex 14 (by decide) (by decide), t14 9 (by decide), e7 7 (by decide) (by decide)]
      exact e9
    · rw [e7 7 (by decide) (by decide)]
      exact b9
