/-! calls on both sides, seventh part: acts -/
theorem AR.c {g g' f f' : Nat → Int32} {w b : Int32} {n : Nat} (h6 : n ≤ 6) (H : AR g g' w b n) (e : ∀ j, j < 44 → f j = g j) (e' : ∀ j, j < 44 → f' j = g' j) : AR f f' w b n := by
  obtain ⟨h, wf, H⟩ := H
  refine ⟨h, wf.c e, ?_⟩
  rcases H with ⟨c, c1, c2, c3, c4⟩ | ⟨c1, c2, c3, c4, c5⟩
  · refine Or.inl ⟨c, c1, c2, by rw [e _ (by omega)]; exact c3, fun j j1 j2 => ?_⟩
    rw [e j (by omega), e' j (by omega)]
    exact c4 j j1 j2
  · refine Or.inr ⟨c1, c2, by rw [e' 1 (by decide)]; exact c3, fun j j1 j2 => ?_, fun d hd => ⟨fun k hk => ?_, ?_⟩⟩
    · rw [e j (by omega), e' j (by omega)]
      exact c4 j j1 j2
    · rw [e _ (by omega), e' _ (by omega)]
      exact (c5 d hd).1 k hk
    · rw [e _ (by omega), e' _ (by omega), e _ (by omega), e' _ (by omega)]
      exact (c5 d hd).2
theorem sn_lt {σ : ax_Z} {m i : Nat} (h : i < m) : sn σ m i = fun j => σ 83 (44 * i + j) := if_pos h
theorem sn_ge {σ : ax_Z} {m i : Nat} (h : ¬ i < m) : sn σ m i = σ 81 := if_neg h
theorem rA.keep {σ τ υ : ax_Z} {n m : Nat} {w b : Int32} (H : rA σ n m) (h6 : n ≤ 6) (e25 : τ 25 = ac_keep σ m w b 25) (e26 : τ 26 = ac_keep σ m w b 26) (e27 : τ 27 = ac_keep σ m w b 27) (e9 : τ 77 9 = mk_keep υ m 77 9) (e83 : τ 83 = mk_keep υ m 83) (u81 : υ 81 = σ 81) (u83 : υ 83 = σ 83) (ar : AR (σ 81) (τ 81) w b n) : ∃ m', rA τ n m' := by
  obtain ⟨h1, h2, h3, h4⟩ := H
  by_cases hm : m = 24
  · subst hm
    have k25 : ac_keep σ 24 w b 25 2 = nI 24 := by
      unfold ac_keep ac_put
      rw [if_pos rfl, up_s]
    have k26 : ∀ i, i < 23 → ac_keep σ 24 w b 26 i = σ 26 (i + 1) := fun i hi => by
      unfold ac_keep ac_put ac_sh
      rw [if_pos rfl, up_ne (by decide), up_ne (by decide), up_o (by omega), cp_ne (by decide), cp_in (by omega) (by omega), up_ne (by decide)]
      congr 1
      omega
    have k26' : ac_keep σ 24 w b 26 23 = w := by
      unfold ac_keep ac_put
      rw [if_pos rfl, up_ne (by decide), up_ne (by decide), up_s]
    have k27 : ∀ i, i < 23 → ac_keep σ 24 w b 27 i = σ 27 (i + 1) := fun i hi => by
      unfold ac_keep ac_put ac_sh
      rw [if_pos rfl, up_ne (by decide), up_o (by omega), up_ne (by decide), cp_in (by omega) (by omega), cp_ne (by decide), up_ne (by decide)]
      congr 1
      omega
    have k27' : ac_keep σ 24 w b 27 23 = b := by
      unfold ac_keep ac_put
      rw [if_pos rfl, up_ne (by decide), up_s]
    have k9 : mk_keep υ 24 77 9 = nI 24 := by
      unfold mk_keep mk_put
      rw [if_pos rfl, up_s]
    have k83 : ∀ i j, i < 23 → j < 44 → mk_keep υ 24 83 (44 * i + j) = σ 83 (44 * (i + 1) + j) := fun i j hi hj => by
      unfold mk_keep mk_put mk_sh
      rw [if_pos rfl, up_ne (by decide), cpn_o (by omega), up_ne (by decide), ← u83]
      unfold shd
      rw [if_pos ⟨rfl, by omega⟩, show 44 * i + j + 44 = 44 * (i + 1) + j by omega]
    have k83' : ∀ j, j < 44 → mk_keep υ 24 83 (44 * 23 + j) = σ 81 j := fun j hj => by
      unfold mk_keep mk_put mk_sh
      rw [if_pos rfl, up_ne (by decide), cpn_in (by omega) (by omega), up_ne (by decide), shd_ne (by decide), u81, show 0 + (44 * 23 + j - 44 * 23) = j by omega]
    refine ⟨24, by rw [e25]; exact k25, by rw [e9]; exact k9, by decide, fun i hi => ?_⟩
    rw [e26, e27]
    by_cases e : i = 23
    · subst e
      rw [k26', k27', sn_lt (by decide), sn_ge (by decide), e83]
      exact AR.c h6 ar k83' (fun j hj => rfl)
    · have i1 := h4 (i + 1) (by omega)
      rw [k26 i (by omega), k27 i (by omega)]
      rw [sn_lt (by omega)] at i1
      rw [sn_lt (by omega), sn_lt (by omega), e83]
      refine AR.c h6 i1 (fun j hj => k83 i j (by omega) hj) (fun j hj => ?_)
      by_cases e2 : i = 22
      · subst e2
        rw [sn_ge (by decide)]
        exact k83' j hj
      · rw [sn_lt (by omega)]
        exact k83 (i + 1) j (by omega) hj
  · have k25 : ac_keep σ m w b 25 2 = nI (m + 1) := by
      unfold ac_keep ac_put
      rw [if_neg hm, up_s]
    have k26 : ∀ i, i ≠ m → ac_keep σ m w b 26 i = σ 26 i := fun i hi => by
      unfold ac_keep ac_put
      rw [if_neg hm, up_ne (by decide), up_ne (by decide), up_o hi]
    have k26' : ac_keep σ m w b 26 m = w := by
      unfold ac_keep ac_put
      rw [if_neg hm, up_ne (by decide), up_ne (by decide), up_s]
    have k27 : ∀ i, i ≠ m → ac_keep σ m w b 27 i = σ 27 i := fun i hi => by
      unfold ac_keep ac_put
      rw [if_neg hm, up_ne (by decide), up_o hi, up_ne (by decide)]
    have k27' : ac_keep σ m w b 27 m = b := by
      unfold ac_keep ac_put
      rw [if_neg hm, up_ne (by decide), up_s]
    have k9 : mk_keep υ m 77 9 = nI (m + 1) := by
      unfold mk_keep mk_put
      rw [if_neg hm, up_s]
    have k83 : ∀ i j, i < m → j < 44 → mk_keep υ m 83 (44 * i + j) = σ 83 (44 * i + j) := fun i j hi hj => by
      unfold mk_keep mk_put
      rw [if_neg hm, up_ne (by decide), cpn_o (by omega), u83]
    have k83' : ∀ j, j < 44 → mk_keep υ m 83 (44 * m + j) = σ 81 j := fun j hj => by
      unfold mk_keep mk_put
      rw [if_neg hm, up_ne (by decide), cpn_in (by omega) (by omega), u81]
      congr 1
      omega
    refine ⟨m + 1, by rw [e25]; exact k25, by rw [e9]; exact k9, by omega, fun i hi => ?_⟩
    rw [e26, e27]
    by_cases e : i = m
    · subst e
      rw [k26', k27', sn_lt (by omega), sn_ge (by omega), e83]
      exact AR.c h6 ar k83' (fun j hj => rfl)
    · have i1 := h4 i (by omega)
      rw [k26 i e, k27 i e]
      rw [sn_lt (by omega)] at i1
      rw [sn_lt (by omega), sn_lt (by omega), e83]
      refine AR.c h6 i1 (fun j hj => k83 i j (by omega) hj) (fun j hj => ?_)
      by_cases e2 : i + 1 = m
      · rw [sn_ge (by omega), e2]
        exact k83' j hj
      · rw [sn_lt (by omega)]
        exact k83 (i + 1) j (by omega) hj
theorem mkk_ne {υ : ax_Z} {m a : Nat} (h : a ≠ 83 ∧ a ≠ 77) : mk_keep υ m a = υ a := by
  unfold mk_keep mk_put mk_sh
  split
  · rw [up_ne h.2, cpn_ne h.1, up_ne h.2, shd_ne h.1]
  · rw [up_ne h.2, cpn_ne h.1]
theorem mkk_77 {υ : ax_Z} {m j : Nat} (h : j ≠ 9) : mk_keep υ m 77 j = υ 77 j := by
  unfold mk_keep mk_put mk_sh
  split
  · rw [up_o h, cpn_ne (by decide), up_o h, shd_ne (by decide)]
  · rw [up_o h, cpn_ne (by decide)]
/-- what an act leaves as it was -/
theorem RR.ac {σ τ : ax_Z} (H : RR σ) {n h m : Nat} (hN : rN τ n h) (hA : rA τ n m) (e : ∀ a, a < 14 ∨ 24 ≤ a → a ≠ 25 → a ≠ 26 → a ≠ 27 → a < 77 ∨ 84 ≤ a ∨ (78 ≤ a ∧ a ≤ 80) → a < 85 ∨ 92 < a → τ a = σ a) (e7 : ∀ j, j ≠ 0 → j ≠ 9 → j ≠ 20 → j ≠ 29 → τ 77 j = σ 77 j) : RR τ := by
  obtain ⟨-, ⟨h3, h4⟩, h5, ⟨t, h6⟩, h7, h8, h9⟩ := H
  have e' : ∀ a, (a < 14 ∨ 24 ≤ a) ∧ a ≠ 25 ∧ a ≠ 26 ∧ a ≠ 27 ∧ (a < 77 ∨ 84 ≤ a ∨ (78 ≤ a ∧ a ≤ 80)) ∧ (a < 85 ∨ 92 < a) → τ a = σ a := fun a z => e a z.1 z.2.1 z.2.2.1 z.2.2.2.1 z.2.2.2.2.1 z.2.2.2.2.2
  have f7 : ∀ j, j ≠ 0 ∧ j ≠ 9 ∧ j ≠ 20 ∧ j ≠ 29 → τ 77 j = σ 77 j := fun j z => e7 j z.1 z.2.1 z.2.2.1 z.2.2.2
  refine ⟨⟨n, h, m, hN, hA⟩, ⟨h3.fr (fun a a1 a2 => e' a (by omega)) (by rw [e' 93 (by decide)]) (fun j _ => by rw [e' 94 (by decide)]) (Or.inl (f7 7 (by decide))), h4.fr (fun a a1 a2 => e' a (by omega)) (by rw [e' 93 (by decide)]) (fun j _ => by rw [e' 94 (by decide)]) (Or.inl (f7 7 (by decide)))⟩,
    h5.fr (fun a a1 a2 => e' a (by omega)) (e' 78 (by decide)) (e' 79 (by decide)) (e' 80 (by decide)), ⟨t, h6.fr (by rw [e' 2 (by decide)]) (f7 11 (by decide)) (e' 84 (by decide)) (e' 3 (by decide))⟩, ?_, h8.fr (by rw [e' 39 (by decide)]) (f7 34 (by decide)) (e' 40 (by decide)) (e' 95 (by decide)), h9.fr (e' 12 (by decide))⟩
  unfold rF
  rw [e' 0 (by decide), f7 12 (by decide), f7 1 (by decide)]
  exact h7
theorem op_waits {σ : ax_Z} (R : RR σ) (cart pt : Int32) : OP iX6_waits iX7_waits 2 2 [.int cart, .int pt] σ := by
  intro Y ad l F
  obtain ⟨⟨n, h, m, hN, hA⟩, -⟩ := id R
  obtain ⟨wf, xp, e9, b9⟩ := id hN
  have h6 := wf.2.1
  have WX := w_X6_waits (ad := ad) F (l := l) (σ := σ) (xp.1.trans wf.1) h6 hA.1 hA.2.2.1 (cart := cart) (pt := pt)
  by_cases C : (0 ≤ cart ∧ cart ≤ nI n - 1) ∧ (0 ≤ pt ∧ pt ≤ 11)
  · obtain ⟨c, hc, rfl⟩ := ax_ixN (by omega) C.1
    obtain ⟨p, hp, rfl⟩ := ax_ix (m := 11) (by decide) C.2
    have cl : (nI c).toNatClampNeg = c := nI_clamp (by omega)
    rw [cl] at WX
    have x4 : σ 20 c = σ 81 (8 + 6 * c + 4) := xp.2.2.2.1 c 4 hc (by decide)
    have x3 : σ 19 c = σ 81 (8 + 6 * c + 3) := xp.2.2.2.1 c 3 hc (by decide)
    by_cases g : σ 20 c = -1000000
    · have t0 : ∀ a, a ≠ 25 ∧ a ≠ 26 ∧ a ≠ 27 ∧ a ≠ 19 → ax_up (ac_keep σ m (nI c) (σ 19 c)) 19 c (nI p) a = σ a := fun a ha => by rw [up_ne ha.2.2.2, ac_ne ⟨ha.1, ha.2.1, ha.2.2.1⟩]
      have g2 : ax_up (ax_up (ac_keep σ m (nI c) (σ 19 c)) 19 c (nI p)) 77 0 0 81 (8 + 6 * c + 4) = -1000000 := by
        rw [up_ne (by decide), t0 81 (by decide), ← x4]
        exact g
      refine ⟨_, _, _, WX.ans (by rw [if_pos C, if_pos g]) (by rw [if_pos C, if_pos g]), (w_X7_waits F (n := n) (m := m) (by rw [t0 81 (by decide)]; exact wf.1) h6 (by rw [t0 77 (by decide)]; exact hA.2.1) hA.2.2.1).ans ?_ (by rw [if_pos C, cl, if_pos g2]), ?_⟩
      · rw [if_pos C, cl, if_pos g2, mkk_ne (by decide), up_ne (by decide), t0 81 (by decide)]
        exact x3.symm
      · generalize hτ : ax_up (mk_keep (ax_up (ax_up (ac_keep σ m (nI c) (σ 19 c)) 19 c (nI p)) 77 0 0) m) 81 (8 + 6 * c + 3) (nI p) = τ
        have e : ∀ a, a ≠ 25 ∧ a ≠ 26 ∧ a ≠ 27 ∧ a ≠ 19 ∧ a ≠ 77 ∧ a ≠ 81 ∧ a ≠ 83 → τ a = σ a := fun a ha => by
          rw [← hτ, up_ne (by omega), mkk_ne (by omega), up_ne (by omega), t0 a (by omega)]
        have e7 : ∀ j, j ≠ 0 → j ≠ 9 → τ 77 j = σ 77 j := fun j j0 j9 => by
          rw [← hτ, up_ne (by decide), mkk_77 j9, up_o j0, t0 77 (by decide)]
        have e81 : ∀ j, j ≠ 8 + 6 * c + 3 → τ 81 j = σ 81 j := fun j hj => by
          rw [← hτ, up_o hj, mkk_ne (by decide), up_ne (by decide), t0 81 (by decide)]
        have e81' : τ 81 (8 + 6 * c + 3) = nI p := by rw [← hτ, up_s]
        have e19 : ∀ d, d ≠ c → τ 19 d = σ 19 d := fun d hd => by
          rw [← hτ, up_ne (by decide), mkk_ne (by decide), up_ne (by decide), up_o hd, ac_ne (by decide)]
        have e19' : τ 19 c = nI p := by
          rw [← hτ, up_ne (by decide), mkk_ne (by decide), up_ne (by decide), up_s]
        have wf' : WF (τ 81) n h := by
          obtain ⟨w1, w2, w3, w4, w5, w6⟩ := wf
          refine ⟨by rw [e81 0 (by omega)]; exact w1, w2, by rw [e81 1 (by omega)]; exact w3, w4, fun t ht => by rw [e81 _ (by omega)]; exact w5 t ht, fun d hd => ?_⟩
          rw [e81 (8 + 6 * d + 0) (by omega), e81 (8 + 6 * d + 1) (by omega), e81 (8 + 6 * d + 2) (by omega), e81 (8 + 6 * d + 4) (by omega), e81 (8 + 6 * d + 5) (by omega)]
          obtain ⟨y1, y2, y3, y4, y5⟩ := w6 d hd
          refine ⟨y1, y2, y3, ?_, y5⟩
          by_cases ed : d = c
          · subst ed
            exact ⟨p, hp, e81'⟩
          · rw [e81 _ (by omega)]
            exact y4
        have ar : AR (σ 81) (τ 81) (nI c) (σ 19 c) n := ⟨h, wf, Or.inl ⟨c, hc, rfl, x3, fun j _ hj => e81 j hj⟩⟩
        obtain ⟨m', rA'⟩ := hA.keep (τ := τ) (υ := ax_up (ax_up (ac_keep σ m (nI c) (σ 19 c)) 19 c (nI p)) 77 0 0) h6 (by rw [← hτ, up_ne (by decide), mkk_ne (by decide), up_ne (by decide), up_ne (by decide)]) (by rw [← hτ, up_ne (by decide), mkk_ne (by decide), up_ne (by decide), up_ne (by decide)]) (by rw [← hτ, up_ne (by decide), mkk_ne (by decide), up_ne (by decide), up_ne (by decide)]) (by rw [← hτ, up_ne (by decide)]) (by rw [← hτ, up_ne (by decide)]) (by rw [up_ne (by decide), t0 81 (by decide)]) (by rw [up_ne (by decide), t0 83 (by decide)]) ar
        refine R.ac (n := n) (h := h) (m := m') ⟨wf', ⟨?_, ?_, fun t ht => ?_, fun d k hd hk => ?_, fun d hd => ?_⟩, ?_, ?_⟩ rA' (fun a a1 a2 a3 a4 a5 a6 => e a (by omega)) (fun j j0 j9 _ _ => e7 j j0 j9)
        · rw [e 14 (by decide), e81 0 (by omega)]
          exact xp.1
        · rw [e 14 (by decide), e81 1 (by omega)]
          exact xp.2.1
        · rw [e 15 (by decide), e81 _ (by omega)]
          exact xp.2.2.1 t ht
        · by_cases ek : k = 3
          · subst ek
            by_cases ed : d = c
            · subst ed
              rw [e81']
              exact e19'
            · rw [e81 _ (by omega)]
              exact (e19 d ed).trans (xp.2.2.2.1 d 3 hd (by decide))
          · rw [e (14 + 2 + k) (by omega), e81 _ (by omega)]
            exact xp.2.2.2.1 d k hd hk
        · rw [e 22 (by decide)]
          exact xp.2.2.2.2 d hd
        · rw [e 14 (by decide), e7 7 (by decide) (by decide)]
          exact e9
        · rw [e7 7 (by decide) (by decide)]
          exact b9
    · have g2 : ¬ ax_up σ 77 0 0 81 (8 + 6 * c + 4) = -1000000 := by
        rw [up_ne (by decide), ← x4]
        exact g
      exact ⟨_, _, _, WX.ans (by rw [if_pos C, if_neg g]) (by rw [if_pos C, if_neg g]), (w_X7_waits F wf.1 h6 hA.2.1 hA.2.2.1).ans (by rw [if_pos C, cl, if_neg g2]) (by rw [if_pos C, cl, if_neg g2]), R.sm sm.u0⟩
  · exact ⟨_, _, _, WX.ans (by rw [if_neg C]) (by rw [if_neg C]), (w_X7_waits F wf.1 h6 hA.2.1 hA.2.2.1).ans (by rw [if_neg C]) (by rw [if_neg C]), R.sm sm.u0⟩
