/-! calls on both sides, first part -/
theorem op_fault {σ : ax_Z} (R : RR σ) : OP iX6_fault iX7_fault 0 0 [] σ := by
  intro Y ad l F
  refine ⟨σ 0 7, σ, ax_up σ 77 0 0, w_X6_fault F, (w_X7_fault F).ans ?_ rfl, R.sm sm.u0⟩
  rw [up_o (by decide)]
  exact R.2.2.2.2.1.1.symm
theorem op_status {σ : ax_Z} (R : RR σ) : OP iX6_status iX7_status 0 0 [] σ := by
  intro Y ad l F
  refine ⟨σ 0 8, σ, ax_up σ 77 0 0, w_X6_status F, (w_X7_status F).ans ?_ rfl, R.sm sm.u0⟩
  rw [up_o (by decide)]
  exact R.2.2.2.2.1.2.symm
theorem op_trace {σ : ax_Z} (R : RR σ) (i : Int32) : OP iX6_trace iX7_trace 1 1 [.int i] σ := by
  intro Y ad l F
  obtain ⟨t, t1, t2, t3, t4⟩ := R.2.2.2.2.2.1
  refine ⟨_, σ, ax_up σ 77 0 0, w_X6_trace F t2 t1, (w_X7_trace F t3 t1).ans ?_ rfl, R.sm sm.u0⟩
  by_cases h : 0 ≤ i ∧ i ≤ nI t - 1
  · rw [if_pos h, if_pos h, up_ne (by decide)]
    obtain ⟨c, hc, rfl⟩ := ax_ixN (by omega) h
    rw [nI_clamp (by omega), t4 c hc]
  · rw [if_neg h, if_neg h]
theorem op_kind {σ : ax_Z} (R : RR σ) (cart : Int32) : OP iX6_kind iX7_kind 2 2 [.int cart] σ := by
  intro Y ad l F
  obtain ⟨⟨n, h, m, ⟨wf, xp, -, -⟩, -⟩, -⟩ := id R
  refine ⟨_, σ, ax_up σ 77 0 0, w_X6_kind F (xp.1.trans wf.1) wf.2.1, (w_X7_kind F wf.1 wf.2.1).ans ?_ rfl, R.sm sm.u0⟩
  by_cases hq : 0 ≤ cart ∧ cart ≤ nI n - 1
  · rw [if_pos hq, if_pos hq, up_ne (by decide)]
    have h6 := wf.2.1
    obtain ⟨c, hc, rfl⟩ := ax_ixN (by omega) hq
    rw [nI_clamp (by omega)]
    exact (xp.2.2.2.1 c 0 hc (by decide)).symm
  · rw [if_neg hq, if_neg hq]
theorem op_cart {σ : ax_Z} (R : RR σ) (cart k : Int32) : OP iX6_cart iX7_cart 2 2 [.int cart, .int k] σ := by
  intro Y ad l F
  obtain ⟨⟨n, h, m, ⟨wf, xp, -, -⟩, -⟩, -⟩ := id R
  have h6 := wf.2.1
  refine ⟨_, σ, _, w_X6_cart F (xp.1.trans wf.1) wf.2.1, (w_X7_cart F wf.1 wf.2.1).ans ?_ rfl, ?_⟩
  · by_cases hq : 0 ≤ cart ∧ cart ≤ nI n - 1
    · obtain ⟨c, hc, rfl⟩ := ax_ixN (by omega) hq
      have e : ∀ j, j < 6 → ly_S (ax_up σ 77 0 0) n n 81 (8 + 6 * c + j) = σ (14 + 2 + j) c := fun j hj => by
        rw [ly_ne81, up_ne (by decide)]
        exact (xp.2.2.2.1 c j hc hj).symm
      have f : ∀ j, j < 6 → ly_S (ax_up σ 77 0 0) n n (85 + j) c = σ (14 + 2 + j) c := fun j hj => by
        rw [ly_in (by omega) (by omega) hc, up_ne (by decide), Nat.add_sub_cancel_left]
        exact (xp.2.2.2.1 c j hc hj).symm
      rw [if_pos hq, nI_clamp (by omega)]
      have f1 := f 1 (by decide)
      have f2 := f 2 (by decide)
      have f4 := f 4 (by decide)
      have f5 := f 5 (by decide)
      simp only [Nat.reduceAdd] at f1 f2 f4 f5
      rcases ax_sw6 k with rfl | rfl | rfl | rfl | rfl | rfl | hk
      · rw [if_pos ⟨hq, by decide⟩, if_neg (by decide), if_pos rfl]
        exact e 1 (by decide)
      · rw [if_pos ⟨hq, by decide⟩, if_neg (by decide), if_neg (by decide), if_pos rfl]
        exact e 2 (by decide)
      · rw [if_pos ⟨hq, by decide⟩, if_neg (by decide), if_neg (by decide), if_neg (by decide), if_pos rfl]
        exact e 3 (by decide)
      · rw [if_pos ⟨hq, by decide⟩, if_neg (by decide), if_neg (by decide), if_neg (by decide), if_neg (by decide), if_pos rfl]
        exact e 4 (by decide)
      · rw [if_pos ⟨hq, by decide⟩, if_neg (by decide), if_neg (by decide), if_neg (by decide), if_neg (by decide), if_neg (by decide), if_pos rfl]
        exact e 5 (by decide)
      · rw [if_pos ⟨hq, by decide⟩, if_pos (show (5 : Int32) ≤ 5 by decide), f1, f2, f4, f5, if_neg (show ¬ (5 : Int32) = 0 by decide), if_neg (show ¬ (5 : Int32) = 1 by decide), if_neg (show ¬ (5 : Int32) = 2 by decide), if_neg (show ¬ (5 : Int32) = 3 by decide), if_neg (show ¬ (5 : Int32) = 4 by decide), if_pos (show (5 : Int32) = 5 from rfl)]
      · obtain ⟨k0, k1, k2, k3, k4, k5⟩ := ax_sw6_ne hk
        rw [if_neg k0, if_neg k1, if_neg k2, if_neg k3, if_neg k4, if_neg k5, if_neg (fun z => by
          have z1 := Int32.le_iff_toInt_le.mp z.2.1
          have z2 := Int32.le_iff_toInt_le.mp z.2.2
          have a0 : (0 : Int32).toInt = 0 := by decide
          have a5 : (5 : Int32).toInt = 5 := by decide
          omega)]
    · rw [if_neg hq, if_neg (fun z => hq z.1)]
  · split
    · refine R.sm ⟨fun a ha => ?_, fun j j0 j1 j2 j3 => ?_⟩
      · rw [ly_ne (by omega) (by omega), up_ne (by omega)]
      · rw [ly_o ⟨j1, j2⟩, up_o j0]
    · exact R.sm sm.u0
theorem mu_sum {σ τ : ax_Z} {f : Nat → Int32} {n : Nat} (h : ∀ c, c < n → f c = τ 81 (8 + 6 * c + 5)) : hs_sum f n = mu_s τ n := by
  induction n with
  | zero => rfl
  | succ n ih => rw [hs_sum, mu_s, ih (fun c hc => h c (by omega)), h n (by omega)]
theorem op_count {σ : ax_Z} (R : RR σ) (k : Int32) : OP iX6_count iX7_count 1 1 [.int k] σ := by
  intro Y ad l F
  obtain ⟨⟨n, h, m, ⟨wf, xp, -, -⟩, hA⟩, -, hR, ⟨t, hT⟩, -, -, -⟩ := id R
  refine ⟨_, σ, _, w_X6_count F (xp.1.trans wf.1) wf.2.1, (w_X7_count F wf.1 wf.2.1).ans ?_ rfl, R.sm sm.u0⟩
  have h0 : ms_c (fun r => decide (0 ≤ (ax_up σ 77 0 0) 78 r)) 8 = ms_c (fun c => decide (¬ σ (41 + 2 * c) 1 = 0)) 8 := by
    refine ms_c_c (fun r hr => ?_)
    rw [up_ne (by decide)]
    rcases (hR r hr).1 with ⟨q1, q2⟩ | ⟨q1, q2, l, q3, q4⟩
    · rw [q1, q2]
      decide
    · rw [q1, q4, decide_eq_true (nI_pos' (by omega))]
      decide
  have h3 : ms_c (fun c => decide (¬ (ax_up σ 77 0 0) 81 (8 + 6 * c + 4) = -1000000)) n = ms_c (hp_gn σ 14) n := by
    refine ms_c_c (fun c hc => ?_)
    rw [up_ne (by decide)]
    unfold hp_gn
    rw [← xp.2.2.2.1 c 4 hc (by decide)]
  have h5 : mu_s (ax_up σ 77 0 0) n = hs_sum (σ 21) n := by
    refine (mu_sum (σ := σ) (fun c hc => ?_)).symm
    rw [up_ne (by decide)]
    exact xp.2.2.2.1 c 5 hc (by decide)
  rw [h0, h3, h5, up_ne (by decide), up_o (by decide), up_o (by decide), xp.1, xp.2.1, hA.1, hA.2.1, hT.1, hT.2.1]
theorem op_two {σ : ax_Z} (R : RR σ) (a b hr k : Int32) : OP iX6_two iX7_two 3 2 [.int a, .int b, .int hr, .int k] σ := by
  intro Y ad l F
  obtain ⟨⟨n, h, m, ⟨wf, xp, -, -⟩, -⟩, -⟩ := id R
  have h6 := wf.2.1
  refine ⟨_, σ, _, w_X6_two F (xp.1.trans wf.1) wf.2.1, (w_X7_two F wf.1 wf.2.1).ans ?_ rfl, R.sm sm.u0⟩
  by_cases hq : ((0 ≤ a ∧ a ≤ nI n - 1) ∧ (0 ≤ b ∧ b ≤ nI n - 1) ∧ ¬ a = b ∧ (0 ≤ hr ∧ hr ≤ 11) ∧ (0 ≤ k ∧ k ≤ 1))
  · rw [if_pos hq, if_pos hq]
    obtain ⟨ca, hca, ea⟩ := ax_ixN (by omega) hq.1
    obtain ⟨cb, hcb, eb⟩ := ax_ixN (by omega) hq.2.1
    have e1 : ax_up σ 77 0 0 81 (8 + 6 * a.toNatClampNeg + 2) = σ 18 a.toNatClampNeg := by
      rw [up_ne (by decide), ea, nI_clamp (by omega)]
      exact (xp.2.2.2.1 ca 2 hca (by decide)).symm
    have e2 : ax_up σ 77 0 0 81 (8 + 6 * b.toNatClampNeg + 2) = σ 18 b.toNatClampNeg := by
      rw [up_ne (by decide), eb, nI_clamp (by omega)]
      exact (xp.2.2.2.1 cb 2 hcb (by decide)).symm
    have e3 : hs_toll (fun t => ax_up σ 77 0 0 81 (2 + t)) 2 = hs_toll (σ 15) 2 := hs_toll_c (fun t ht => by
      rw [up_ne (by decide)]
      exact (xp.2.2.1 t ht).symm)
    rw [e1, e2, e3]
    obtain ⟨j, hj, rfl⟩ := ax_ix (m := 1) (by decide) hq.2.2.2.2
    rcases (show j = 0 ∨ j = 1 by omega) with rfl | rfl
    · rw [if_pos (by decide), if_neg (by decide)]
    · rw [if_neg (by decide), if_pos (by decide)]
  · rw [if_neg hq, if_neg hq]
theorem op_size {σ : ax_Z} (R : RR σ) : OP iX6_size iX7_size 3 1 [] σ := by
  intro Y ad l F
  obtain ⟨⟨n, h, m, ⟨wf, xp, e9, b9⟩, -⟩, -⟩ := id R
  refine ⟨_, σ, _, w_X6_size F (xp.1.trans wf.1) wf.2.1, (w_X7_size F).ans ?_ rfl, R.sm sm.u0⟩
  have hc : ∀ m, hs_cs (fun t => ax_up σ 77 0 0 81 (2 + t)) m = hs_cs (σ 15) m := by
    have ht : ∀ k, hs_toll (fun t => ax_up σ 77 0 0 81 (2 + t)) k = hs_toll (σ 15) k := fun k => hs_toll_c (fun t ht => by
      rw [up_ne (by decide)]
      exact (xp.2.2.1 t ht).symm)
    intro m
    induction m with
    | zero => rfl
    | succ m ih => rw [hs_cs, hs_cs, ih, ht, ht]
  rw [up_o (by decide), ← e9, hc]
theorem op_shares {σ : ax_Z} (R : RR σ) (nn k : Int32) : OP iX6_shares iX7_shares 4 1 [.int nn, .int k] σ := by
  intro Y ad l F
  obtain ⟨⟨n, h, m, ⟨wf, xp, e9, b9⟩, -⟩, -⟩ := id R
  refine ⟨_, σ, _, w_X6_shares F (xp.1.trans wf.1) wf.2.1, (w_X7_shares F).ans ?_ rfl, R.sm sm.u0⟩
  have te : ∀ t, t < 6 → σ 15 t = ax_up σ 77 0 0 81 (2 + t) := fun t ht => by
    rw [up_ne (by decide)]
    exact xp.2.2.1 t ht
  have t99 : ∀ t, t < 6 → ∃ T : Nat, T ≤ 99 ∧ σ 15 t = nI T := fun t ht => by
    obtain ⟨T, T1, T2⟩ := wf.2.2.2.2.1 t ht
    exact ⟨T, T1, (xp.2.2.1 t ht).trans T2⟩
  rw [up_o (by decide), ← e9]
  by_cases h9 : σ 14 9 = 0
  · rw [if_pos h9, if_pos h9]
  · rw [if_neg h9, if_neg h9]
    by_cases hq : (1 ≤ nn ∧ nn ≤ 6) ∧ -1 ≤ k
    · rw [if_pos hq, if_pos hq]
      obtain ⟨u, hu, eu⟩ := ax_ix (v := nn) (M := 6) (m := 6) (by decide) ⟨by
        have q1 := Int32.le_iff_toInt_le.mp hq.1.1
        have a1 : (1 : Int32).toInt = 1 := by decide
        have a0 : (0 : Int32).toInt = 0 := by decide
        rw [Int32.le_iff_toInt_le]
        omega, hq.1.2⟩
      subst eu
      have hu0 : 0 < u := Nat.lt_of_not_le (fun z => by
        have : u = 0 := by omega
        subst this
        exact absurd hq.1.1 (by decide))
      rw [nI_clamp (by omega)]
      have ht : ∀ j, hs_toll (fun t => ax_up σ 77 0 0 81 (2 + t)) j = hs_toll (σ 15) j := fun j => (hs_toll_c te).symm
      by_cases hk : k = -1
      · subst hk
        rw [if_pos (by decide), if_pos rfl, sh_ok te t99 hu0 hu]
      · have hk0 : 0 ≤ k := ax_m1 hq.2 hk
        rw [if_neg (Int32.not_lt.mpr hk0), if_neg hk]
        by_cases hl : k < nI u
        · rw [if_pos hl, if_pos hl]
          obtain ⟨j, hj, rfl⟩ := nI_of (Int32.not_lt.mpr hk0)
          have hju : j < u := (nI_ltI hj (by omega)).mp hl
          obtain ⟨T, T9, eT⟩ := hs_toll_99 t99 u
          rw [nI_clamp hj, ht, eT, sh_d T9 hu0 hu hju]
        · rw [if_neg hl, if_neg hl]
    · rw [if_neg hq, if_neg hq]
theorem op_ford {σ : ax_Z} (R : RR σ) (cart p q k : Int32) : OP iX6_ford iX7_ford 3 2 [.int cart, .int p, .int q, .int k] σ := by
  intro Y ad l F
  obtain ⟨⟨n, h, m, ⟨wf, xp, e9, b9⟩, -⟩, -⟩ := id R
  have t99 : ∀ t, t < 6 → ∃ T : Nat, T ≤ 99 ∧ σ 15 t = nI T := fun t ht => by
    obtain ⟨T, T1, T2⟩ := wf.2.2.2.2.1 t ht
    exact ⟨T, T1, (xp.2.2.1 t ht).trans T2⟩
  obtain ⟨T, T9, eT⟩ := hs_toll_99 t99 1
  have hx : ∀ c, c < n → σ 18 c = nI (σ 18 c).toNatClampNeg ∧ (σ 18 c).toNatClampNeg ≤ 20 := fun c hc => by
    obtain ⟨H, H1, H2⟩ := (wf.2.2.2.2.2 c hc).2.2.1
    have e : σ 18 c = nI H := (xp.2.2.2.1 c 2 hc (by decide)).trans H2
    rw [e, nI_clamp (by omega)]
    exact ⟨rfl, H1⟩
  refine ⟨_, σ, _, w_X6_ford F (xp.1.trans wf.1) wf.2.1 eT T9 (Hf := fun c => (σ 18 c).toNatClampNeg) hx, (w_X7_ford F wf.1 wf.2.1 (T := T) (by rw [← eT]; exact (hs_toll_c (fun t ht => xp.2.2.1 t ht)).symm) T9 (Hf := fun c => (σ 18 c).toNatClampNeg) (fun c hc => by
    refine ⟨?_, (hx c hc).2⟩
    rw [← (hx c hc).1]
    exact (xp.2.2.2.1 c 2 hc (by decide)).symm)).ans ?_ rfl, R.sm sm.u0⟩
  by_cases hq : ((0 ≤ cart ∧ cart ≤ nI n - 1) ∧ (0 ≤ p ∧ p ≤ 100) ∧ (0 ≤ q ∧ q ≤ 3) ∧ (0 ≤ k ∧ k ≤ 1))
  · rw [if_pos hq, if_pos (show ((0 ≤ cart ∧ cart ≤ nI n - 1) ∧ (0 ≤ p ∧ p ≤ 100)) ∧ (0 ≤ q ∧ q ≤ 3) ∧ (0 ≤ k ∧ k ≤ 1) from ⟨⟨hq.1, hq.2.1⟩, hq.2.2⟩)]
  · rw [if_neg hq, if_neg (fun z => hq ⟨z.1.1, z.1.2, z.2⟩)]
