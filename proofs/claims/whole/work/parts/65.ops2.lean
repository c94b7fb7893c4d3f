/-! calls on both sides, second part: rows, as, ask, feed -/
theorem RR.rw {σ τ : ax_Z} (H : RR σ) (e : ∀ a, a ≠ 0 → a ≠ 77 → (a < 41 ∨ 57 ≤ a) → (a < 78 ∨ 81 ≤ a) → τ a = σ a) (e0 : ∀ j, j ≠ 8 → τ 0 j = σ 0 j) (e7 : ∀ j, j ≠ 1 → j ≠ 0 → τ 77 j = σ 77 j) (r : rR τ) (s : τ 0 8 = τ 77 1) : RR τ := by
  obtain ⟨⟨n, h, m, h1, h2⟩, ⟨h3, h4⟩, h5, ⟨t, h6⟩, h7, h8, h9⟩ := H
  have e' : ∀ a, a ≠ 0 ∧ a ≠ 77 ∧ (a < 41 ∨ 57 ≤ a) ∧ (a < 78 ∨ 81 ≤ a) → τ a = σ a := fun a z => e a z.1 z.2.1 z.2.2.1 z.2.2.2
  refine ⟨⟨n, h, m, h1.fr (fun a a1 a2 => e' a (by omega)) (e' 81 (by decide)) (e7 7 (by decide) (by decide)), h2.fr (by rw [e' 25 (by decide)]) (e' 26 (by decide)) (e' 27 (by decide)) (e7 9 (by decide) (by decide)) (e' 83 (by decide)) (e' 81 (by decide))⟩, ⟨h3.fr (fun a a1 a2 => e' a (by omega)) (by rw [e' 93 (by decide)]) (fun j _ => by rw [e' 94 (by decide)]) (Or.inl (e7 7 (by decide) (by decide))), h4.fr (fun a a1 a2 => e' a (by omega)) (by rw [e' 93 (by decide)]) (fun j _ => by rw [e' 94 (by decide)]) (Or.inl (e7 7 (by decide) (by decide)))⟩,
    r, ⟨t, h6.fr (by rw [e' 2 (by decide)]) (e7 11 (by decide) (by decide)) (e' 84 (by decide)) (e' 3 (by decide))⟩, ?_, h8.fr (by rw [e' 39 (by decide)]) (e7 34 (by decide) (by decide)) (e' 40 (by decide)) (e' 95 (by decide)), h9.fr (e' 12 (by decide))⟩
  unfold rF
  rw [e0 7 (by decide), e7 12 (by decide) (by decide)]
  exact ⟨h7.1, s⟩
/-- a finding, on both sides -/
theorem RR.fo {σ : ax_Z} {v : Int32} (H : RR σ) : RR (ax_up (ax_up (ax_up (ax_up σ 0 8 v) 77 0 0) 77 1 0) 77 1 v) := by
  refine H.st (v := v) (fun a h0 h7 => ?_) (fun j hj => ?_) (fun j h1 h0 => ?_) ?_ ?_
  · rw [up_ne h7, up_ne h7, up_ne h7, up_ne h0]
  · rw [up_ne (by decide), up_ne (by decide), up_ne (by decide), up_o hj]
  · rw [up_o h1, up_o h1, up_o h0, up_ne (by decide)]
  · rw [up_ne (by decide), up_ne (by decide), up_ne (by decide), up_s]
  · rw [up_s]
theorem RR.fo0 {σ : ax_Z} {v : Int32} (H : RR σ) : RR (ax_up (ax_up (ax_up σ 0 8 v) 77 0 0) 77 1 v) := by
  refine H.st (v := v) (fun a h0 h7 => ?_) (fun j hj => ?_) (fun j h1 h0 => ?_) ?_ ?_
  · rw [up_ne h7, up_ne h7, up_ne h0]
  · rw [up_ne (by decide), up_ne (by decide), up_o hj]
  · rw [up_o h1, up_o h0, up_ne (by decide)]
  · rw [up_ne (by decide), up_ne (by decide), up_s]
  · rw [up_s]
theorem fin_in {σ : ax_Z} {k d n b : Nat} {v : Int32} (h1 : d ≤ b) (h2 : b < d + n) : fin σ k d n v k b = v := if_pos ⟨rfl, h1, h2⟩
theorem fin_o {σ : ax_Z} {k d n b : Nat} {v : Int32} (h : b < d ∨ d + n ≤ b) : fin σ k d n v k b = σ k b := if_neg (fun z => by omega)
theorem op_row {σ : ax_Z} (R : RR σ) (row lane n : Int32) : OP iX6_row iX7_row 2 2 [.int row, .int lane, .int n] σ := by
  intro Y ad l F
  by_cases C : ((0 ≤ row ∧ row ≤ 7) ∧ (0 ≤ lane ∧ lane ≤ 2) ∧ n ≤ 40)
  · by_cases hn : n < 0
    · exact ⟨_, _, _, (w_X6_row F).ans (by rw [if_pos C, if_pos hn]) (by rw [if_pos C, if_pos hn]), (w_X7_row F).ans (by rw [if_pos C, if_neg (Int32.not_le.mpr hn)]) (by rw [if_pos C, if_neg (Int32.not_le.mpr hn)]), R.fo⟩
    · have h0 : 0 ≤ n := Int32.not_lt.mp hn
      refine ⟨_, _, _, (w_X6_row F).ans (by rw [if_pos C, if_neg hn]) (by rw [if_pos C, if_neg hn]), (w_X7_row F).ans (by rw [if_pos C, if_pos h0]) (by rw [if_pos C, if_pos h0]), ?_⟩
      obtain ⟨c, hc, rfl⟩ := ax_ix (m := 7) (by decide) C.1
      obtain ⟨ln, hl, rfl⟩ := ax_ix (m := 2) (by decide) C.2.1
      obtain ⟨len, hlen, rfl⟩ := ax_ix (m := 40) (by decide) ⟨h0, C.2.2⟩
      rw [nI_clamp (by omega)]
      unfold ro_new
      refine R.rw (fun a a0 a7 a1 a2 => ?_) (fun j hj => ?_) (fun j h1 h0 => ?_) (fun r hr => ?_) ?_
      · simp (disch := omega) only [fin_ne, up_ne, fi_ne]
      · simp (disch := omega) only [fin_ne, up_ne, fi_ne, up_o]
      · simp (disch := omega) only [fin_ne, up_ne, fi_ne, up_o]
      · by_cases e : r = c
        · subst e
          refine ⟨Or.inr ⟨?_, ?_, ln, hl, ?_⟩, ?_, ⟨len, hlen, ?_⟩, fun i hi => ?_⟩
          · simp (disch := omega) only [fin_ne, up_ne, up_o, up_s]
          · simp (disch := omega) only [fin_ne, up_ne, up_o, up_s]
          · simp (disch := omega) only [fin_ne, up_ne, up_o, up_s]
          · simp (disch := omega) only [fin_ne, up_ne, up_o, up_s]
          · simp (disch := omega) only [fin_ne, up_ne, up_o, up_s]
          · rw [fin_in (by omega) (by omega)]
            simp (disch := omega) only [fin_ne, up_ne, fi_in]
        · refine (R.2.2.1 r hr).fr ?_ ?_ ?_ ?_ (fun i hi => ?_)
          · simp (disch := omega) only [fin_ne, up_ne, fi_ne]
          · simp (disch := omega) only [fin_ne, up_ne, fi_ne]
          · simp (disch := omega) only [fin_ne, up_ne, fi_ne, up_o]
          · simp (disch := omega) only [fin_ne, up_ne, fi_ne, up_o]
          · rw [fin_o (by omega)]
            simp (disch := omega) only [up_ne, fi_ne]
      · simp (disch := omega) only [fin_ne, up_ne, up_o, up_s]
  · exact ⟨_, _, _, (w_X6_row F).ans (by rw [if_neg C]) (by rw [if_neg C]), (w_X7_row F).ans (by rw [if_neg C]) (by rw [if_neg C]), R.sm sm.u0⟩
theorem op_drop {σ : ax_Z} (R : RR σ) (row : Int32) : OP iX6_drop iX7_drop 2 2 [.int row] σ := by
  intro Y ad l F
  by_cases C : 0 ≤ row ∧ row ≤ 7
  · obtain ⟨c, hc, rfl⟩ := ax_ix (m := 7) (by decide) C
    have cl : (nI c).toNatClampNeg = c := nI_clamp (by omega)
    obtain ⟨q, q3, q4, q5⟩ := R.2.2.1 c (by omega)
    rcases q with ⟨q1, q2⟩ | ⟨q1, q2, ln, q6, q7⟩
    · refine ⟨_, _, _, (w_X6_drop F).ans (by rw [if_pos C, cl, if_pos q1]) (by rw [if_pos C, cl, if_pos q1]), (w_X7_drop F).ans ?_ ?_, R.fo (v := 1)⟩
      · rw [if_pos C, cl, if_neg]
        simp (disch := omega) only [up_ne]
        rw [q2]
        decide
      · rw [if_pos C, cl, if_neg]
        simp (disch := omega) only [up_ne]
        rw [q2]
        decide
    · have n1 : ¬ σ (41 + 2 * c) 1 = 0 := by
        rw [q1]
        decide
      have p1 : 0 ≤ ax_up (ax_up (ax_up (ax_up σ (41 + 2 * c) 1 0) 0 8 0) 77 0 0) 77 1 0 78 c := by
        simp (disch := omega) only [up_ne]
        rw [q7]
        exact nI_pos' (by omega)
      refine ⟨_, _, _, (w_X6_drop F).ans (by rw [if_pos C, cl, if_neg n1]) (by rw [if_pos C, cl, if_neg n1]), (w_X7_drop F).ans (by rw [if_pos C, cl, if_pos p1]; simp (disch := omega) only [up_ne]; exact q3.symm) (by rw [if_pos C, cl, if_pos p1]), ?_⟩
      refine R.rw (fun a a0 a7 a1 a2 => ?_) (fun j hj => ?_) (fun j h1 h0 => ?_) (fun r hr => ?_) ?_
      · simp (disch := omega) only [up_ne]
      · simp (disch := omega) only [up_ne, up_o]
      · simp (disch := omega) only [up_ne, up_o]
      · by_cases e : r = c
        · subst e
          refine ⟨Or.inl ⟨?_, ?_⟩, ?_, ?_, fun i hi => ?_⟩
          · simp (disch := omega) only [up_ne, up_s]
          · simp (disch := omega) only [up_s]
          · simp (disch := omega) only [up_ne, up_o]
            exact q3
          · simp (disch := omega) only [up_ne]
            exact q4
          · simp (disch := omega) only [up_ne]
            exact q5 i hi
        · refine (R.2.2.1 r hr).fr ?_ ?_ ?_ ?_ (fun i hi => ?_)
          · simp (disch := omega) only [up_ne]
          · simp (disch := omega) only [up_ne]
          · simp (disch := omega) only [up_ne, up_o]
          · simp (disch := omega) only [up_ne]
          · simp (disch := omega) only [up_ne]
      · simp (disch := omega) only [up_ne, up_s]
  · exact ⟨_, _, _, (w_X6_drop F).ans (by rw [if_neg C]) (by rw [if_neg C]), (w_X7_drop F).ans (by rw [if_neg C]) (by rw [if_neg C]), R.sm sm.u0⟩
theorem rR.lx {σ : ax_Z} (h : rR σ) : ∀ c, c < 8 → ∃ len, len ≤ 40 ∧ σ (41 + 2 * c) 3 = nI len := fun c hc => by
  obtain ⟨-, q3, ⟨len, l1, l2⟩, -⟩ := h c hc
  exact ⟨len, l1, q3.trans l2⟩
theorem rR.lm {σ : ax_Z} (h : rR σ) : ∀ c, c < 8 → ∃ len, len ≤ 40 ∧ σ 79 c = nI len := fun c hc => (h c hc).2.2.1
theorem pl_set {a L : Int32} {len : Nat} (hL : L = nI len) (hl : len ≤ 40) : (0 ≤ a ∧ (0 : Int32) ≤ 1 ∧ a ≤ L ∧ 1 ≤ L - a) ↔ (0 ≤ a ∧ a ≤ L - 1) := by
  constructor
  · intro h
    obtain ⟨u, v, e1, e2, e3⟩ := ax_plc hL hl h
    have hv : v = 1 := by
      have : v < 2 ^ 31 := by omega
      exact ((nI_eq (a := 1) (by decide) this).mp e2).symm
    subst hv
    subst e1
    rw [hL]
    exact ax_cq (by omega) (by omega)
  · intro h
    rw [hL] at h
    obtain ⟨u, hu, rfl⟩ := ax_ixN (by omega) h
    exact ax_plc' (u := u) (v := 1) hL hl (by omega)
theorem op_set {σ : ax_Z} (R : RR σ) (row a v : Int32) : OP iX6_set iX7_set 2 2 [.int row, .int a, .int v] σ := by
  intro Y ad l F
  have hR := R.2.2.1
  by_cases C : 0 ≤ row ∧ row ≤ 7
  · obtain ⟨c, hc, rfl⟩ := ax_ix (m := 7) (by decide) C
    have cl : (nI c).toNatClampNeg = c := nI_clamp (by omega)
    obtain ⟨q, q3, ⟨len, l1, l2⟩, q5⟩ := hR c (by omega)
    have l3 : σ (41 + 2 * c) 3 = nI len := q3.trans l2
    rcases q with ⟨q1, q2⟩ | ⟨q1, q2, ln, q6, q7⟩
    · refine ⟨_, _, _, (w_X6_set F hR.lx).ans (by rw [if_pos C, cl, if_pos q1]) (by rw [if_pos C, cl, if_pos q1]), (w_X7_set F (fun c hc => by simp (disch := omega) only [up_ne]; exact hR.lm c hc)).ans ?_ ?_, R.fo (v := 1)⟩
      · rw [if_pos C, cl, if_neg]
        simp (disch := omega) only [up_ne]
        rw [q2]
        decide
      · rw [if_pos C, cl, if_neg]
        simp (disch := omega) only [up_ne]
        rw [q2]
        decide
    · have n1 : ¬ σ (41 + 2 * c) 1 = 0 := by
        rw [q1]
        decide
      have pl := pl_set (a := a) l3 l1
      by_cases hp : (0 ≤ a ∧ (0 : Int32) ≤ 1 ∧ a ≤ σ (41 + 2 * c) 3 ∧ 1 ≤ σ (41 + 2 * c) 3 - a)
      · have hm := pl.mp hp
        have hu0 := hm
        rw [l3] at hu0
        obtain ⟨u, hu, rfl⟩ := ax_ixN (by omega) hu0
        have ul : (nI u).toNatClampNeg = u := nI_clamp (by omega)
        refine ⟨_, _, ax_up (ax_up (ax_up (ax_up (ax_up σ (42 + 2 * c) u (if σ (41 + 2 * c) 2 = 0 then v.toInt8.toInt32 else if σ (41 + 2 * c) 2 = 1 then v.toInt16.toInt32 else v)) 0 8 0) 77 0 0) 77 1 0) 80 (40 * c + u) (if σ (41 + 2 * c) 2 = 0 then v.toInt8.toInt32 else if σ (41 + 2 * c) 2 = 1 then v.toInt16.toInt32 else v), (w_X6_set F hR.lx).ans (by rw [if_pos C, cl, if_neg n1, if_pos hp]) (by rw [if_pos C, cl, if_neg n1, if_pos hp, ul]), (w_X7_set F (fun c hc => by simp (disch := omega) only [up_ne]; exact hR.lm c hc)).ans ?_ ?_, ?_⟩
        · rw [if_pos C, cl]
          simp (disch := omega) only [up_ne]
          rw [← q3, ← q2, if_pos (by rw [q2, q7]; exact nI_pos' (by omega)), if_pos hm]
        · rw [if_pos C, cl, ul]
          simp (disch := omega) only [up_ne]
          rw [← q3, ← q2, if_pos (by rw [q2, q7]; exact nI_pos' (by omega)), if_pos hm]
        · generalize (if σ (41 + 2 * c) 2 = 0 then v.toInt8.toInt32 else if σ (41 + 2 * c) 2 = 1 then v.toInt16.toInt32 else v) = w
          refine R.rw (fun a a0 a7 a1 a2 => ?_) (fun j hj => ?_) (fun j h1 h0 => ?_) (fun r hr => ?_) ?_
          · simp (disch := omega) only [up_ne]
          · simp (disch := omega) only [up_ne, up_o]
          · simp (disch := omega) only [up_ne, up_o]
          · by_cases e : r = c
            · subst e
              refine ⟨Or.inr ⟨?_, ?_, ln, q6, ?_⟩, ?_, ⟨len, l1, ?_⟩, fun i hi => ?_⟩
              · simp (disch := omega) only [up_ne]
                exact q1
              · simp (disch := omega) only [up_ne]
                exact q2
              · simp (disch := omega) only [up_ne]
                exact q7
              · simp (disch := omega) only [up_ne]
                exact q3
              · simp (disch := omega) only [up_ne]
                exact l2
              · by_cases ei : i = u
                · subst ei
                  simp (disch := omega) only [up_ne, up_s]
                · simp (disch := omega) only [up_ne, up_o]
                  exact q5 i hi
            · refine (hR r hr).fr ?_ ?_ ?_ ?_ (fun i hi => ?_)
              · simp (disch := omega) only [up_ne]
              · simp (disch := omega) only [up_ne]
              · simp (disch := omega) only [up_ne]
              · simp (disch := omega) only [up_ne]
              · simp (disch := omega) only [up_ne, up_o]
          · simp (disch := omega) only [up_ne, up_s]
      · have hm : ¬ (0 ≤ a ∧ a ≤ σ (41 + 2 * c) 3 - 1) := fun z => hp (pl.mpr z)
        refine ⟨_, _, _, (w_X6_set F hR.lx).ans (by rw [if_pos C, cl, if_neg n1, if_neg hp]) (by rw [if_pos C, cl, if_neg n1, if_neg hp]), (w_X7_set F (fun c hc => by simp (disch := omega) only [up_ne]; exact hR.lm c hc)).ans ?_ ?_, R.fo (v := 2)⟩
        · rw [if_pos C, cl]
          simp (disch := omega) only [up_ne]
          rw [← q3, if_pos (by rw [q7]; exact nI_pos' (by omega)), if_neg hm]
        · rw [if_pos C, cl]
          have x1 : 0 ≤ ax_up (ax_up (ax_up σ 0 8 2) 77 0 0) 77 1 0 78 c := by
            simp (disch := omega) only [up_ne]
            rw [q7]
            exact nI_pos' (by omega)
          have x2 : ¬ (0 ≤ a ∧ a ≤ ax_up (ax_up (ax_up σ 0 8 2) 77 0 0) 77 1 0 79 c - 1) := by
            simp (disch := omega) only [up_ne]
            rw [← q3]
            exact hm
          rw [if_pos x1, if_neg x2]
  · exact ⟨_, _, _, (w_X6_set F hR.lx).ans (by rw [if_neg C]) (by rw [if_neg C]), (w_X7_set F hR.lm).ans (by rw [if_neg C]) (by rw [if_neg C]), R.sm sm.u0⟩
