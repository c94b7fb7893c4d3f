/-! calls on both sides, fourth part: feed, image, restore -/
theorem fe_ne {σ : ax_Z} {w : Int64} {t n a : Nat} (h : a ≠ 2 ∧ a ≠ 3) : ∀ m, fe_S σ w t n m a = σ a := by
  intro m
  induction m with
  | zero => rfl
  | succ m ih => rw [fe_S, up_ne h.1, up_ne h.2, ih]
theorem fe_3 {σ : ax_Z} {w : Int64} {t n i : Nat} : ∀ m, fe_S σ w t n m 3 i = if t ≤ i ∧ i < t + m then fe_b w (n - 1 - (i - t)) else σ 3 i := by
  intro m
  induction m with
  | zero => rw [if_neg (by omega)]; rfl
  | succ m ih =>
    rw [fe_S, up_ne (by decide)]
    by_cases e : i = t + m
    · subst e
      rw [up_s, if_pos (by omega), Nat.add_sub_cancel_left]
    · rw [up_o e, ih]
      by_cases e2 : t ≤ i ∧ i < t + m
      · rw [if_pos e2, if_pos (by omega)]
      · rw [if_neg e2, if_neg (by omega)]
theorem mf_ne {σ : ax_Z} {w : Int64} {t n a : Nat} (h : a ≠ 77 ∧ a ≠ 84) : ∀ m, mf_S σ w t n m a = σ a := by
  intro m
  induction m with
  | zero => rfl
  | succ m ih => rw [mf_S, up_ne h.1, up_ne h.2, ih]
theorem mf_77 {σ : ax_Z} {w : Int64} {t n j : Nat} (h : j ≠ 11) : ∀ m, mf_S σ w t n m 77 j = σ 77 j := by
  intro m
  induction m with
  | zero => rfl
  | succ m ih => rw [mf_S, up_o h, up_ne (by decide), ih]
theorem mf_84 {σ : ax_Z} {w : Int64} {t n i : Nat} : ∀ m, mf_S σ w t n m 84 i = if t ≤ i ∧ i < t + m then mf_b w (n - 1 - (i - t)) else σ 84 i := by
  intro m
  induction m with
  | zero => rw [if_neg (by omega)]; rfl
  | succ m ih =>
    rw [mf_S, up_ne (by decide)]
    by_cases e : i = t + m
    · subst e
      rw [up_s, if_pos (by omega), Nat.add_sub_cancel_left]
    · rw [up_o e, ih]
      by_cases e2 : t ≤ i ∧ i < t + m
      · rw [if_pos e2, if_pos (by omega)]
      · rw [if_neg e2, if_neg (by omega)]
theorem by8 (y : Int32) : ∃ v : Nat, v < 256 ∧ (y &&& 255) = nI v ∧ y.toInt8.toInt32 = (nI v).toInt8.toInt32 := by
  refine ⟨y.toBitVec.toNat % 2 ^ 8, Nat.mod_lt _ (by decide), pk_and y 8 (by decide), ?_⟩
  congr 1
  apply Int8.toBitVec_inj.mp
  rw [Int32.toBitVec_toInt8, Int32.toBitVec_toInt8, BitVec.signExtend_eq_setWidth_of_le _ (by decide), BitVec.signExtend_eq_setWidth_of_le _ (by decide)]
  apply BitVec.eq_of_toNat_eq
  have hl : y.toBitVec.toNat % 2 ^ 8 < 2 ^ 8 := Nat.mod_lt _ (by decide)
  rw [BitVec.toNat_setWidth, BitVec.toNat_setWidth, pk_tn (by omega), Nat.mod_mod]
theorem fm_b (w : Int64) (k : Nat) : ∃ v : Nat, v < 256 ∧ mf_b w k = nI v ∧ fe_b w k = (nI v).toInt8.toInt32 := by
  obtain ⟨v, v1, v2, v3⟩ := by8 (w >>> ((8 * nI k).toInt64 &&& 63)).toInt32
  refine ⟨v, v1, ?_, ?_⟩
  · unfold mf_b
    rw [Int64.toInt32_and]
    exact v2
  · rw [← v3]
    unfold fe_b vp_nar
    rw [pk_nb]
theorem RR.tp {σ τ : ax_Z} (H : RR σ) {t : Nat} (e : ∀ a, a ≠ 2 ∧ a ≠ 3 ∧ a ≠ 77 ∧ a ≠ 84 → τ a = σ a) (e7 : ∀ j, j ≠ 0 → j ≠ 11 → τ 77 j = σ 77 j) (hT : rT τ t) : RR τ := by
  obtain ⟨⟨n, h, m, h1, h2⟩, ⟨h3, h4⟩, h5, -, h7, h8, h9⟩ := H
  refine ⟨⟨n, h, m, h1.fr (fun a a1 a2 => e a (by omega)) (e 81 (by decide)) (e7 7 (by decide) (by decide)), h2.fr (by rw [e 25 (by decide)]) (e 26 (by decide)) (e 27 (by decide)) (e7 9 (by decide) (by decide)) (e 83 (by decide)) (e 81 (by decide))⟩, ⟨h3.fr (fun a a1 a2 => e a (by omega)) (by rw [e 93 (by decide)]) (fun j _ => by rw [e 94 (by decide)]) (Or.inl (e7 7 (by decide) (by decide))), h4.fr (fun a a1 a2 => e a (by omega)) (by rw [e 93 (by decide)]) (fun j _ => by rw [e 94 (by decide)]) (Or.inl (e7 7 (by decide) (by decide)))⟩,
    h5.fr (fun a a1 a2 => e a (by omega)) (e 78 (by decide)) (e 79 (by decide)) (e 80 (by decide)), ⟨t, hT⟩, ?_, h8.fr (by rw [e 39 (by decide)]) (e7 34 (by decide) (by decide)) (e 40 (by decide)) (e 95 (by decide)), h9.fr (e 12 (by decide))⟩
  unfold rF
  rw [e 0 (by decide), e7 12 (by decide) (by decide), e7 1 (by decide) (by decide)]
  exact h7
theorem op_feed {σ : ax_Z} (R : RR σ) (w : Int64) (n : Int32) : OP iX6_feed iX7_feed 1 1 [.long w, .int n] σ := by
  intro Y ad l F
  obtain ⟨-, -, -, ⟨t, t1, t2, t3, t4⟩, -⟩ := id R
  by_cases C : 1 ≤ n ∧ n ≤ 8
  · obtain ⟨k, hk, ek⟩ := ax_ix (v := n) (M := 8) (m := 8) (by decide) ⟨by
      have q1 := Int32.le_iff_toInt_le.mp C.1
      have a1 : (1 : Int32).toInt = 1 := by decide
      have a0 : (0 : Int32).toInt = 0 := by decide
      rw [Int32.le_iff_toInt_le]
      omega, C.2⟩
    subst ek
    have cl : (nI k).toNatClampNeg = k := nI_clamp (by omega)
    have a1 : (nI k ≤ 400 - nI t) ↔ t + k ≤ 400 := by
      rw [show (400 : Int32) = nI 400 from rfl, pk_sub t3, nI_leI (by omega) (by omega)]
      omega
    have a2 : (nI t + nI k ≤ 400) ↔ t + k ≤ 400 := by
      rw [nI_add, show (400 : Int32) = nI 400 from rfl, nI_leI (by omega) (by omega)]
    by_cases D : t + k ≤ 400
    · refine ⟨_, _, _, (w_X6_feed F t1 t3).ans (by rw [if_pos C, if_pos (a1.mpr D), cl]) (by rw [if_pos C, if_pos (a1.mpr D), cl]), (w_X7_feed F (t := t) (by rw [fe_ne (by decide)]; exact t2) t3).ans (by rw [if_pos C, if_pos (a2.mpr D), cl]) (by rw [if_pos C, if_pos (a2.mpr D), cl]), ?_⟩
      refine R.tp (t := t + k) (fun a ha => ?_) (fun j j0 j1 => ?_) ⟨?_, ?_, D, fun i hi => ?_⟩
      · rw [mf_ne ⟨ha.2.2.1, ha.2.2.2⟩, up_ne ha.2.2.1, fe_ne ⟨ha.1, ha.2.1⟩]
      · rw [mf_77 j1, up_o j0, fe_ne (by decide)]
      · rw [mf_ne (by decide), up_ne (by decide)]
        exact fe_S_l t1
      · exact mf_S_l (by rw [up_o (by decide), fe_ne (by decide)]; exact t2)
      · rw [mf_84, mf_ne (by decide), up_ne (by decide), up_ne (by decide), fe_ne (by decide), fe_3]
        by_cases e : t ≤ i ∧ i < t + k
        · rw [if_pos e, if_pos e]
          exact fm_b w _
        · rw [if_neg e, if_neg e]
          exact t4 i (by omega)
    · exact ⟨_, _, _, (w_X6_feed F t1 t3).ans (by rw [if_pos C, if_neg (fun z => D (a1.mp z))]) (by rw [if_pos C, if_neg (fun z => D (a1.mp z))]), (w_X7_feed F t2 t3).ans (by rw [if_pos C, if_neg (fun z => D (a2.mp z))]) (by rw [if_pos C, if_neg (fun z => D (a2.mp z))]), R.sm sm.u0⟩
  · exact ⟨_, _, _, (w_X6_feed F t1 t3).ans (by rw [if_neg C]) (by rw [if_neg C]), (w_X7_feed F t2 t3).ans (by rw [if_neg C]) (by rw [if_neg C]), R.sm sm.u0⟩
/-! a Pass becomes another one -/
theorem bc_9 {σ : ax_Z} {p q : Nat} : hp_bc σ p q p 9 = σ q 9 := by
  unfold hp_bc
  rw [up_o (by decide), up_o (by decide), up_s]
theorem bc_10 {σ : ax_Z} {p q : Nat} : hp_bc σ p q p 10 = σ q 10 := by
  unfold hp_bc
  rw [up_o (by decide), up_s]
theorem bc_11 {σ : ax_Z} {p q : Nat} : hp_bc σ p q p 11 = σ q 11 := by
  unfold hp_bc
  rw [up_s]
theorem bc_k {σ : ax_Z} {p q j i : Nat} (ap : q + 10 ≤ p ∨ p + 10 ≤ q) (h1 : 1 ≤ j) (h8 : j ≤ 8) (hi : i < 6 ∨ (i < 7 ∧ j ≠ 1)) : hp_bc σ p q (p + j) i = σ (q + j) i := by
  unfold hp_bc
  rcases (show j = 1 ∨ j = 2 ∨ j = 3 ∨ j = 4 ∨ j = 5 ∨ j = 6 ∨ j = 7 ∨ j = 8 by omega) with rfl | rfl | rfl | rfl | rfl | rfl | rfl | rfl
  · simp (disch := omega) only [up_ne, cp_ne, cp_eq]
  · simp (disch := omega) only [up_ne, cp_ne, cp_eq]
  · simp (disch := omega) only [up_ne, cp_ne, cp_eq]
  · simp (disch := omega) only [up_ne, cp_ne, cp_eq]
  · simp (disch := omega) only [up_ne, cp_ne, cp_eq]
  · simp (disch := omega) only [up_ne, cp_ne, cp_eq]
  · simp (disch := omega) only [up_ne, cp_ne, cp_eq]
  · simp (disch := omega) only [up_ne, cp_ne, cp_eq]
theorem XP.bc {σ : ax_Z} {p q n : Nat} {f : Nat → Int32} (h : XP σ q f n) (h6 : n ≤ 6) (ap : q + 10 ≤ p ∨ p + 10 ≤ q) : XP (hp_bc σ p q) p f n := by
  obtain ⟨h1, h2, h3, h4, h5⟩ := h
  refine ⟨bc_10.trans h1, bc_11.trans h2, fun t ht => ?_, fun c k hc hk => ?_, fun c hc => ?_⟩
  · rw [bc_k ap (by decide) (by decide) (Or.inl ht)]
    exact h3 t ht
  · rw [Nat.add_assoc, bc_k ap (by omega) (by omega) (Or.inr (by omega)), ← Nat.add_assoc]
    exact h4 c k hc hk
  · rw [bc_k ap (by decide) (by decide) (Or.inr (by omega))]
    exact h5 c hc
theorem op_image {σ : ax_Z} (R : RR σ) (k : Int32) : OP iX6_image iX7_image 3 1 [.int k] σ := by
  intro Y ad l F
  obtain ⟨⟨n, h, m, hN, hA⟩, ⟨hI0, hI1⟩, hR, ⟨t, hT⟩, hF, hC, hD⟩ := id R
  obtain ⟨wf, xp, e9, b9⟩ := hN
  have b9' : σ 14 9 = 0 ∨ σ 14 9 = 1 := by rw [e9]; exact b9
  have WX := w_X6_image (ad := ad) F (l := l) (σ := σ) (xp.1.trans wf.1) wf.2.1 b9' (k := k)
  by_cases C : 0 ≤ k ∧ k ≤ 1
  · obtain ⟨c, hc, rfl⟩ := ax_ix (m := 1) (by decide) C
    have cl : (nI c).toNatClampNeg = c := nI_clamp (by omega)
    by_cases h0 : σ 14 9 = 0
    · exact ⟨_, _, _, WX.ans (by rw [if_pos C, if_pos h0]) (by rw [if_pos C, if_pos h0]), (w_X7_image F).ans (by rw [if_pos C, up_o (by decide), ← e9, if_pos h0]) (by rw [if_pos C, up_o (by decide), ← e9, if_pos h0]), R.sm sm.u0⟩
    · have h1 : σ 77 7 = 1 := by
        rcases b9 with z | z
        · exact absurd (e9.trans z) h0
        · exact z
      have m0 : ¬ ax_up (hp_bc σ (57 + 10 * c) 14) 77 0 0 77 7 = 0 := by
        rw [up_o (by decide), hp_bc_ne (by omega), h1]
        decide
      refine ⟨_, _, _, WX.ans (by rw [if_pos C, if_neg h0]) (by rw [if_pos C, if_neg h0, cl]), (w_X7_image F).ans (by rw [if_pos C, if_neg m0]) (by rw [if_pos C, if_neg m0, cl]), ?_⟩
      have e : ∀ a, (a < 57 + 10 * c ∨ 57 + 10 * c + 10 ≤ a) → a ≠ 77 → a ≠ 93 → a ≠ 94 → ax_up (cpn (ax_up (hp_bc σ (57 + 10 * c) 14) 77 0 0) 81 0 94 (44 * c) 44) 93 c (vp_nar .boolean 1) a = σ a := fun a a1 a2 a3 a4 => by
        rw [up_ne a3, cpn_ne a4, up_ne a2, hp_bc_ne a1]
      have e7 : ∀ j, j ≠ 0 → ax_up (cpn (ax_up (hp_bc σ (57 + 10 * c) 14) 77 0 0) 81 0 94 (44 * c) 44) 93 c (vp_nar .boolean 1) 77 j = σ 77 j := fun j hj => by
        rw [up_ne (by decide), cpn_ne (by decide), up_o hj, hp_bc_ne (by omega)]
      have hI : ∀ d, d < 2 → rI σ d → rI (ax_up (cpn (ax_up (hp_bc σ (57 + 10 * c) 14) 77 0 0) 81 0 94 (44 * c) 44) 93 c (vp_nar .boolean 1)) d := fun d hd hI => by
        by_cases ed : d = c
        · subst ed
          have ei : ∀ j, j < 44 → im (ax_up (cpn (ax_up (hp_bc σ (57 + 10 * d) 14) 77 0 0) 81 0 94 (44 * d) 44) 93 d (vp_nar .boolean 1)) d j = σ 81 j := fun j hj => by
            unfold im
            rw [up_ne (by decide), cpn_in (by omega) (by omega), up_ne (by decide), hp_bc_ne (by omega)]
            congr 1
            omega
          have xq := xp.bc (p := 57 + 10 * d) wf.2.1 (by omega)
          refine ⟨n, h, wf.c ei, (xq.fr (fun a a1 a2 => ?_)).c wf.2.1 ei, ?_, Or.inr ⟨?_, ?_⟩⟩
          · rw [up_ne (by omega), cpn_ne (by omega), up_ne (by omega)]
          · rw [up_ne (by omega), cpn_ne (by omega), up_ne (by omega), bc_9, up_s, e9, h1]
            rfl
          · rw [up_s]
            rfl
          · rw [e7 7 (by decide)]
            exact h1
        · refine hI.fr (fun a a1 a2 => e a (by omega) (by omega) (by omega) (by omega)) ?_ (fun j hj => ?_) (Or.inl (e7 7 (by decide)))
          · rw [up_o ed, cpn_ne (by decide), up_ne (by decide), hp_bc_ne (by omega)]
          · rw [up_ne (by decide), cpn_o (by omega), up_ne (by decide), hp_bc_ne (by omega)]
      refine ⟨⟨n, h, m, rN.fr ⟨wf, xp, e9, b9⟩ (fun a a1 a2 => e a (by omega) (by omega) (by omega) (by omega)) (e 81 (by omega) (by decide) (by decide) (by decide)) (e7 7 (by decide)), hA.fr (by rw [e 25 (by omega) (by decide) (by decide) (by decide)]) (e 26 (by omega) (by decide) (by decide) (by decide)) (e 27 (by omega) (by decide) (by decide) (by decide)) (e7 9 (by decide)) (e 83 (by omega) (by decide) (by decide) (by decide)) (e 81 (by omega) (by decide) (by decide) (by decide))⟩, ⟨hI 0 (by decide) hI0, hI 1 (by decide) hI1⟩,
        hR.fr (fun a a1 a2 => e a (by omega) (by omega) (by omega) (by omega)) (e 78 (by omega) (by decide) (by decide) (by decide)) (e 79 (by omega) (by decide) (by decide) (by decide)) (e 80 (by omega) (by decide) (by decide) (by decide)), ⟨t, hT.fr (by rw [e 2 (by omega) (by decide) (by decide) (by decide)]) (e7 11 (by decide)) (e 84 (by omega) (by decide) (by decide) (by decide)) (e 3 (by omega) (by decide) (by decide) (by decide))⟩, ?_, hC.fr (by rw [e 39 (by omega) (by decide) (by decide) (by decide)]) (e7 34 (by decide)) (e 40 (by omega) (by decide) (by decide) (by decide)) (e 95 (by omega) (by decide) (by decide) (by decide)), hD.fr (e 12 (by omega) (by decide) (by decide) (by decide))⟩
      unfold rF
      rw [e 0 (by omega) (by decide) (by decide) (by decide), e7 12 (by decide), e7 1 (by decide)]
      exact hF
  · exact ⟨_, _, _, WX.ans (by rw [if_neg C]) (by rw [if_neg C]), (w_X7_image F).ans (by rw [if_neg C]) (by rw [if_neg C]), R.sm sm.u0⟩
theorem op_restore {σ : ax_Z} (R : RR σ) (k : Int32) : OP iX6_restore iX7_restore 3 1 [.int k] σ := by
  intro Y ad l F
  obtain ⟨⟨n0, h0, m0, hN, hA⟩, ⟨hI0, hI1⟩, hR, ⟨t, hT⟩, hF, hC, hD⟩ := id R
  have hIc : ∀ c, c < 2 → rI σ c := fun c hc => by
    rcases (show c = 0 ∨ c = 1 by omega) with rfl | rfl
    · exact hI0
    · exact hI1
  have hi : ∀ c, c < 2 → σ (57 + 10 * c) 9 = 0 ∨ σ (57 + 10 * c) 9 = 1 := fun c hc => by
    obtain ⟨n, h, q1, q2, q3, q4⟩ := hIc c hc
    rw [q3]
    rcases q4 with z | z
    · exact Or.inl z
    · exact Or.inr z.1
  have WX := w_X6_restore (ad := ad) F (l := l) (σ := σ) hi (k := k)
  by_cases C : 0 ≤ k ∧ k ≤ 1
  · obtain ⟨c, hc, rfl⟩ := ax_ix (m := 1) (by decide) C
    have cl : (nI c).toNatClampNeg = c := nI_clamp (by omega)
    obtain ⟨n, h, q1, q2, q3, q4⟩ := hIc c (by omega)
    rcases q4 with z | ⟨z1, z2⟩
    · have x0 : σ (57 + 10 * c) 9 = 0 := q3.trans z
      exact ⟨_, _, _, WX.ans (by rw [if_pos C, cl, if_pos x0]) (by rw [if_pos C, cl, if_pos x0]), (w_X7_restore F).ans (by rw [if_pos C, cl, up_ne (by decide), if_pos z]) (by rw [if_pos C, cl, up_ne (show (93 : Nat) ≠ 77 by decide), if_pos z]), R.sm sm.u0⟩
    · have x0 : ¬ σ (57 + 10 * c) 9 = 0 := by
        rw [q3, z1]
        decide
      have y0 : ¬ ax_up (ax_up (hp_bc σ 14 (57 + 10 * c)) 25 2 0) 77 0 0 93 c = 0 := by
        rw [up_ne (by decide), up_ne (by decide), hp_bc_ne (by omega), z1]
        decide
      refine ⟨_, _, _, WX.ans (by rw [if_pos C, cl, if_neg x0]) (by rw [if_pos C, cl, if_neg x0]), (w_X7_restore F).ans (by rw [if_pos C, cl, if_neg y0]) (by rw [if_pos C, cl, if_neg y0]), ?_⟩
      generalize hτ : ax_up (cpn (ax_up (ax_up (hp_bc σ 14 (57 + 10 * c)) 25 2 0) 77 0 0) 94 (44 * c) 81 0 44) 77 9 0 = τ
      have e : ∀ a, (a < 14 ∨ 24 ≤ a) → a ≠ 77 → a ≠ 81 → a ≠ 25 → τ a = σ a := fun a a1 a2 a3 a4 => by
        rw [← hτ, up_ne a2, cpn_ne a3, up_ne a2, up_ne a4, hp_bc_ne (by omega)]
      have e7 : ∀ j, j ≠ 0 → j ≠ 9 → τ 77 j = σ 77 j := fun j h0 h9 => by
        rw [← hτ, up_o h9, cpn_ne (by decide), up_o h0, up_ne (by decide), hp_bc_ne (by omega)]
      have e81 : ∀ j, j < 44 → τ 81 j = im σ c j := fun j hj => by
        rw [← hτ, up_ne (by decide), cpn_in (by omega) (by omega), up_ne (by decide), up_ne (by decide), hp_bc_ne (by omega)]
        unfold im
        congr 1
      have e14 : ∀ a, 14 ≤ a → a < 24 → τ a = hp_bc σ 14 (57 + 10 * c) a := fun a a1 a2 => by
        rw [← hτ, up_ne (by omega), cpn_ne (by omega), up_ne (by omega), up_ne (by omega)]
      have xq := q2.bc (p := 14) q1.2.1 (by omega)
      refine ⟨⟨n, h, 0, ⟨q1.c e81, (xq.fr (fun a a1 a2 => e14 a (by omega) (by omega))).c q1.2.1 e81, ?_, ?_⟩, ⟨?_, ?_, by decide, fun i hi => absurd hi (Nat.not_lt_zero i)⟩⟩, ⟨hI0.fr (fun a a1 a2 => e a (by omega) (by omega) (by omega) (by omega)) (by rw [e 93 (by decide) (by decide) (by decide) (by decide)]) (fun j _ => by rw [e 94 (by decide) (by decide) (by decide) (by decide)]) (Or.inl (e7 7 (by decide) (by decide))), hI1.fr (fun a a1 a2 => e a (by omega) (by omega) (by omega) (by omega)) (by rw [e 93 (by decide) (by decide) (by decide) (by decide)]) (fun j _ => by rw [e 94 (by decide) (by decide) (by decide) (by decide)]) (Or.inl (e7 7 (by decide) (by decide)))⟩,
        hR.fr (fun a a1 a2 => e a (by omega) (by omega) (by omega) (by omega)) (e 78 (by decide) (by decide) (by decide) (by decide)) (e 79 (by decide) (by decide) (by decide) (by decide)) (e 80 (by decide) (by decide) (by decide) (by decide)), ⟨t, hT.fr (by rw [e 2 (by decide) (by decide) (by decide) (by decide)]) (e7 11 (by decide) (by decide)) (e 84 (by decide) (by decide) (by decide) (by decide)) (e 3 (by decide) (by decide) (by decide) (by decide))⟩, ?_, hC.fr (by rw [e 39 (by decide) (by decide) (by decide) (by decide)]) (e7 34 (by decide) (by decide)) (e 40 (by decide) (by decide) (by decide) (by decide)) (e 95 (by decide) (by decide) (by decide) (by decide)), hD.fr (e 12 (by decide) (by decide) (by decide) (by decide))⟩
      · rw [e14 14 (by decide) (by decide), bc_9, e7 7 (by decide) (by decide), q3, z1, z2]
      · rw [e7 7 (by decide) (by decide)]
        exact Or.inr z2
      · rw [← hτ, up_ne (by decide), cpn_ne (by decide), up_ne (by decide), up_s]
        rfl
      · rw [← hτ, up_s]
        rfl
      · unfold rF
        rw [e 0 (by decide) (by decide) (by decide) (by decide), e7 12 (by decide) (by decide), e7 1 (by decide) (by decide)]
        exact hF
  · exact ⟨_, _, _, WX.ans (by rw [if_neg C]) (by rw [if_neg C]), (w_X7_restore F).ans (by rw [if_neg C]) (by rw [if_neg C]), R.sm sm.u0⟩
