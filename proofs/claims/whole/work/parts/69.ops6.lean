/-! calls on both sides, sixth part: rest, book, judge -/
theorem m1_le {n : Nat} (h : n ≤ 6) : (-1 : Int32) ≤ nI n - 1 := by
  rw [Int32.le_iff_toInt_le, show (nI n - 1).toInt = (n : Int) - 1 from pk_sub_toInt (b := 1) (by omega) (by decide), show (-1 : Int32).toInt = -1 by decide]
  omega
theorem op_rest {σ : ax_Z} (R : RR σ) (cart : Int32) : OP iX6_rest iX7_rest 6 6 [.int cart] σ := by
  intro Y ad l F
  obtain ⟨⟨n, h, m, hN, -⟩, -⟩ := id R
  obtain ⟨wf, xp, e9, b9⟩ := id hN
  have h6 := wf.2.1
  have b9' : σ 14 9 = 0 ∨ σ 14 9 = 1 := by rw [e9]; exact b9
  have WX := w_X6_rest (ad := ad) F (l := l) (σ := σ) (xp.1.trans wf.1) h6 b9' (cart := cart)
  by_cases h0 : σ 14 9 = 0
  · have m0 : ax_up σ 77 0 0 77 7 = 0 := by rw [up_o (by decide), ← e9]; exact h0
    exact ⟨_, _, _, WX.ans (by rw [if_pos h0]) (by rw [if_pos h0]), (w_X7_rest F wf.1 h6).ans (by rw [if_pos m0]) (by rw [if_pos m0]), R.sm sm.u0⟩
  · by_cases C : cart = -1 ∨ (0 ≤ cart ∧ cart ≤ nI n - 1)
    · have CM : (-1 ≤ cart ∧ cart ≤ nI n - 1) := by
        rcases C with z | z
        · rw [z]
          exact ⟨by decide, m1_le h6⟩
        · refine ⟨?_, z.2⟩
          have := Int32.le_iff_toInt_le.mp z.1
          rw [Int32.le_iff_toInt_le, show (-1 : Int32).toInt = -1 by decide]
          rw [show (0 : Int32).toInt = 0 by decide] at this
          omega
      have f1 : ax_fr 29 39 σ (rr_S (xB σ) n (rr_E (xB σ 33) (xK σ n) 20 0)) := fr_bc.tr rr_S_fr
      have rK := rr_S_K (τ := xB σ) (n := n) (r := rr_E (xB σ 33) (xK σ n) 20 0)
      generalize hη : rr_S (xB σ) n (rr_E (xB σ 33) (xK σ n) 20 0) = η at f1 rK WX
      have e81 : ax_up η 77 0 0 81 = σ 81 := by rw [up_ne (by decide)]; exact f1 81 (by decide)
      have s1 : sm σ (ax_up η 77 0 0) := (sm.x f1).tr sm.u0
      have KEq := KE hN e81
      have d7 : n ≤ 7 := by omega
      have mo := mo_K (σ := ly_S (ax_up η 77 0 0) n n) (Hf := fun c => (ly_S (ax_up η 77 0 0) n n 87 c).toNatClampNeg) d7 ly_29 (KD hN e81) (KO hN e81) (fun c hc => KH20 hN e81 hc) 20 0 (ly_S (ax_up η 77 0 0) n n) mi_fr.rf rfl
      have cR := rr_R_c KEq (ha := xB σ 33) (ha' := ly_S (ax_up η 77 0 0) n n 87) (fun c hc => KH hN e81 hc) 20 0
      have m0 : ¬ ax_up η 77 0 0 77 7 = 0 := by rw [up_o (by decide), f1 77 (by decide), ← e9]; exact h0
      refine ⟨_, η, (mr_o (ly_S (ax_up η 77 0 0) n n) n 20 1).1, WX.ans rfl (by rw [if_neg h0, if_pos C]), (w_X7_rest F (n := n) (by rw [f1 81 (by decide)]; exact wf.1) h6).ans ?_ (by rw [if_neg m0, if_pos CM]), R.sm ((s1.tr (sm.ly (n := n))).tr (sm.mb mo.2.2))⟩
      rw [if_neg m0, if_pos CM, if_neg h0]
      rcases C with z | z
      · rw [if_pos z, if_pos (by rw [z]; decide), mo.1]
        exact cR.1.symm
      · have nz : ¬ cart = -1 := fun q => by
          rw [q] at z
          exact absurd z.1 (by decide)
        rw [if_neg nz, if_neg (Int32.not_lt.mpr z.1), if_pos z]
        obtain ⟨c, hc, rfl⟩ := ax_ixN (by omega) z
        rw [nI_clamp (by omega)]
        have q1 : (mr_o (ly_S (ax_up η 77 0 0) n n) n 20 1).1 88 c = dC.pat (mK (mr_o (ly_S (ax_up η 77 0 0) n n) n 20 1).1 n) c := rfl
        have q2 : η 34 c = dC.pat (hp_K η 29 n) c := rfl
        rw [q1, q2, rK, show (mr_o (ly_S (ax_up η 77 0 0) n n) n 20 1).1 = (mr_o (ly_S (ax_up η 77 0 0) n n) n 20 (0 + 1)).1 from rfl, mo.2.1, ← cR.2]
        have q3 := rr_K_c KEq (ha := xB σ 33) (ha' := ly_S (ax_up η 77 0 0) n n 87) (fun c hc => KH hN e81 hc) (rr_E (xB σ 33) (xK σ n) 20 0)
        exact (q3.2.1 c (by rw [rr_K_n]; exact hc)).2.2.1.symm
    · have CM : ¬ (-1 ≤ cart ∧ cart ≤ nI n - 1) := fun z => C (by
        by_cases q : cart = -1
        · exact Or.inl q
        · exact Or.inr ⟨ax_m1 z.1 q, z.2⟩)
      have m0 : ¬ ax_up σ 77 0 0 77 7 = 0 := by rw [up_o (by decide), ← e9]; exact h0
      exact ⟨_, _, _, WX.ans (by rw [if_neg h0, if_neg (fun z => C (Or.inl z)), if_neg (fun z => C (Or.inr z))]) (by rw [if_neg h0, if_neg C]), (w_X7_rest F wf.1 h6).ans (by rw [if_neg m0, if_neg CM]) (by rw [if_neg m0, if_neg CM]), R.sm sm.u0⟩
theorem op_book {σ : ax_Z} (R : RR σ) (cart k : Int32) : OP iX6_book iX7_book 5 5 [.int cart, .int k] σ := by
  intro Y ad l F
  obtain ⟨⟨n, h, m, hN, -⟩, -⟩ := id R
  obtain ⟨wf, xp, e9, b9⟩ := id hN
  have h6 := wf.2.1
  have b9' : σ 14 9 = 0 ∨ σ 14 9 = 1 := by rw [e9]; exact b9
  have WX := w_X6_book (ad := ad) F (l := l) (σ := σ) (xp.1.trans wf.1) h6 b9' (cart := cart) (k := k)
  by_cases C : (0 ≤ cart ∧ cart ≤ nI n - 1) ∧ (1 ≤ k ∧ k ≤ 30)
  · obtain ⟨c, hc, rfl⟩ := ax_ixN (by omega) C.1
    have cl : (nI c).toNatClampNeg = c := nI_clamp (by omega)
    have f1 : ax_fr 29 39 σ (bk_S (xB σ) n k.toNatClampNeg) := fr_bc.tr bk_S_fr
    generalize hη : bk_S (xB σ) n k.toNatClampNeg = η at f1 WX
    have e81 : ax_up η 77 0 0 81 = σ 81 := by rw [up_ne (by decide)]; exact f1 81 (by decide)
    have s1 : sm σ (ax_up η 77 0 0) := (sm.x f1).tr sm.u0
    have KEq := KE hN e81
    have d7 : n ≤ 7 := by omega
    have WM := w_X7_book (ad := ad) F (l := l) (σ := η) (n := n) (by rw [f1 81 (by decide)]; exact wf.1) h6 (cart := nI c) (k := k)
    generalize hτ : ly_S (ax_up η 77 0 0) n n = τ at WM KEq
    have kd : kd_ok (τ 85) n := by rw [← hτ]; exact KD hN e81
    have s2 : sm σ τ := by rw [← hτ]; exact s1.tr sm.ly
    have q92 : ∀ d, d < 7 → fin (ax_up τ 77 29 1) 92 0 7 0 92 d = 0 := fun d hd => fin_in (by omega) (by omega)
    have emt : mt (fin (ax_up τ 77 29 1) 92 0 7 0) = fin (ax_up τ 77 29 1) 92 0 7 0 92 := by
      unfold mt
      rw [if_neg (by rw [fin_ne (by decide), up_s]; decide)]
    have tm0 : ∀ d, d < 7 → dC.tm (xK σ n) d = 0 := fun d hd => by
      show xB σ (29 + 8) d = 0
      rw [xB_k (by decide) (by decide) (Or.inr (by omega))]
      exact hN.2.1.2.2.2.2 d hd
    have KQ : dC.eq (mK (fin (ax_up τ 77 29 1) 92 0 7 0) n) (xK σ n) := by
      refine ⟨rfl, fun d hd => ?_, fun t ht => ?_⟩
      · have hd' : d < n := hd
        obtain ⟨k1, k2, k3, -⟩ := KEq.2.1 d hd'
        show fin (ax_up τ 77 29 1) 92 0 7 0 85 d = _ ∧ fin (ax_up τ 77 29 1) 92 0 7 0 86 d = _ ∧ fin (ax_up τ 77 29 1) 92 0 7 0 88 d = _ ∧ mt (fin (ax_up τ 77 29 1) 92 0 7 0) d = _
        rw [emt, q92 d (by omega), tm0 d (by omega), fin_ne (by decide), fin_ne (by decide), fin_ne (by decide), up_ne (by decide), up_ne (by decide), up_ne (by decide)]
        exact ⟨k1.symm, k2.symm, k3.symm, rfl⟩
      · show fin (ax_up τ 77 29 1) 92 0 7 0 81 (2 + t) = _
        rw [fin_ne (by decide), up_ne (by decide)]
        exact (KEq.2.2 t ht).symm
    refine ⟨_, η, mk_S (fin (ax_up τ 77 29 1) 92 0 7 0) n k.toNatClampNeg, WX.ans rfl (by rw [if_pos C]), WM.ans ?_ (by rw [if_pos C]), R.sm (s2.tr ⟨fun a ha => ?_, fun j j0 j1 j2 j3 => ?_⟩)⟩
    · rw [if_pos C, if_pos C, cl]
      exact mk_B d7 (by rw [fin_ne (by decide), up_s]; decide) (by rw [fin_ne (by decide), up_ne (by decide)]; exact kd) KQ (fun d hd => (q92 d hd).trans (tm0 d hd).symm) _ c (by omega)
    · rw [mk_frame _ (by omega), fin_ne (by omega), up_ne (by omega)]
    · rw [mk_frame _ (by decide), fin_ne (by decide), up_o j2]
  · exact ⟨_, _, _, WX.ans (by rw [if_neg C]) (by rw [if_neg C]), (w_X7_book F wf.1 h6).ans (by rw [if_neg C]) (by rw [if_neg C]), R.sm sm.u0⟩
theorem ju_c {e e' : Nat → Bool} : ∀ (q h : Nat), (∀ j, j < h + q → e j = e' j) → ju_f e q h = ju_f e' q h := by
  intro q
  induction q with
  | zero => intro h _; rfl
  | succ q ih =>
    intro h H
    rw [ju_f, ju_f, H h (by omega), ih (h + 1) (fun j hj => H j (by omega))]
theorem ju_1 {x y : Int32} {n : Nat} (h6 : n ≤ 6) (hx : -1 ≤ x ∧ x ≤ nI n - 1) (hy : y = -1 ∨ ∃ f, f < n ∧ y = nI f) : (if x < 0 then decide (mP y = -1000000) else decide (mP y = x)) = decide (x = y) := by
  by_cases q : x = -1
  · subst q
    rw [if_pos (by decide)]
    unfold mP
    rcases hy with z | ⟨f, f1, z⟩
    · subst z
      rfl
    · subst z
      rw [if_neg (nI_m1 (by omega)), decide_eq_false (nI_none (by omega)), decide_eq_false (fun z => nI_m1 (c := f) (by omega) z.symm)]
  · have x0 := ax_m1 hx.1 q
    rw [if_neg (Int32.not_lt.mpr x0)]
    obtain ⟨u, hu, rfl⟩ := ax_ixN (by omega) ⟨x0, hx.2⟩
    unfold mP
    rcases hy with z | ⟨f, f1, z⟩
    · subst z
      rw [if_pos rfl, decide_eq_false (fun z => nI_none (k := u) (by omega) z.symm), decide_eq_false (nI_m1 (by omega))]
    · subst z
      rw [if_neg (nI_m1 (by omega))]
      by_cases w : nI f = nI u
      · rw [decide_eq_true w, decide_eq_true w.symm]
      · rw [decide_eq_false w, decide_eq_false (fun z => w z.symm)]
theorem op_judge {σ : ax_Z} (R : RR σ) (row i : Int32) : OP iX6_judge iX7_judge 5 5 [.int row, .int i] σ := by
  intro Y ad l F
  obtain ⟨⟨n, h, m, hN, -⟩, -, hR, -⟩ := id R
  obtain ⟨wf, xp, e9, b9⟩ := id hN
  have h6 := wf.2.1
  have b9' : σ 14 9 = 0 ∨ σ 14 9 = 1 := by rw [e9]; exact b9
  have WX := w_X6_judge (ad := ad) F (l := l) (σ := σ) (xp.1.trans wf.1) h6 b9' hR.lx (row := row) (i := i)
  have WM0 := w_X7_judge (ad := ad) F (l := l) (σ := σ) wf.1 h6 hR.lm (row := row) (i := i)
  have m0e : ax_up σ 77 0 0 77 7 = σ 14 9 := by rw [up_o (by decide), e9]
  by_cases h0 : σ 14 9 = 0
  · have m0 : ax_up σ 77 0 0 77 7 = 0 := m0e.trans h0
    exact ⟨_, _, _, WX.ans (by rw [if_pos h0]) (by rw [if_pos h0]), WM0.ans (by rw [if_pos m0]) (by rw [if_pos m0]), R.sm sm.u0⟩
  · have m0 : ¬ ax_up σ 77 0 0 77 7 = 0 := by rw [m0e]; exact h0
    by_cases C : 0 ≤ row ∧ row ≤ 7
    · obtain ⟨c, hc, rfl⟩ := ax_ix (m := 7) (by decide) C
      have cl : (nI c).toNatClampNeg = c := nI_clamp (by omega)
      have rc := hR c (by omega)
      rw [cl] at WX WM0
      have s0 : ∀ v, ax_up (ax_up σ 0 8 v) 77 0 0 77 7 = σ 14 9 := fun v => by rw [up_o (by decide), up_ne (by decide), e9]
      have lmS : ∀ v, ∀ c, c < 8 → ∃ len, len ≤ 40 ∧ ax_up σ 0 8 v 79 c = nI len := fun v c hc => by
        rw [up_ne (by decide)]
        exact hR.lm c hc
      by_cases th : σ (41 + 2 * c) 1 = 0
      · have tm : ax_up σ 0 8 1 78 c < 0 := by
          rw [up_ne (by decide)]
          exact Int32.not_le.mp (fun z => rc.th.mpr z th)
        exact ⟨_, _, _, WX.ans (by rw [if_neg h0, if_pos C, if_pos th]) (by rw [if_neg h0, if_pos C, if_pos th]), (w_X7_judge F (σ := ax_up σ 0 8 1) (n := n) (by rw [up_ne (by decide)]; exact wf.1) h6 (lmS 1)).ans (by rw [if_neg (by rw [s0]; exact h0), if_pos C, cl, if_pos tm]) (by rw [if_neg (by rw [s0]; exact h0), if_pos C, cl, if_pos tm]), R.fo0 (v := 1)⟩
      · have tm : ¬ σ 78 c < 0 := Int32.not_lt.mpr (rc.th.mp th)
        obtain ⟨len, l1, l2⟩ := rc.2.2.1
        have l3 : σ (41 + 2 * c) 3 = nI len := rc.2.1.trans l2
        have pl := pl_cp (i := i) (n := 12) l3 l1
        by_cases P : (0 ≤ i ∧ (0 : Int32) ≤ 12 ∧ i ≤ σ (41 + 2 * c) 3 ∧ 12 ≤ σ (41 + 2 * c) 3 - i)
        · have PM : (0 ≤ i ∧ i.toInt + (12 : Int32).toInt ≤ (σ 79 c).toInt) := by
            rw [← rc.2.1]
            exact ⟨P.1, (pl.mp P).2.2⟩
          obtain ⟨u, v, eu, ev, euv⟩ := ax_plc l3 l1 P
          have v12 : v = 12 := by
            have : v < 2 ^ 31 := by omega
            exact ((nI_eq (a := 12) (by decide) this).mp ev).symm
          subst v12
          subst eu
          have ul : (nI u).toNatClampNeg = u := nI_clamp (by omega)
          rw [ul] at WX WM0
          have it : ∀ j, j < 12 → σ (42 + 2 * c) (u + j) = σ 80 (40 * c + u + j) := fun j hj => by
            rw [rc.2.2.2 (u + j) (by omega), Nat.add_assoc]
          have al : hs_all (fun h => decide (σ (42 + 2 * c) (u + h) = -1) || decide (0 ≤ σ (42 + 2 * c) (u + h) ∧ σ (42 + 2 * c) (u + h) ≤ nI n - 1)) 12 = hs_all (fun h => decide (-1 ≤ σ 80 (40 * c + u + h) ∧ σ 80 (40 * c + u + h) ≤ nI n - 1)) 12 := by
            refine hs_all_c (fun j hj => ?_)
            rw [it j hj]
            generalize σ 80 (40 * c + u + j) = x
            by_cases q : x = -1
            · subst q
              rw [decide_eq_true rfl, decide_eq_true (show (-1 : Int32) ≤ -1 ∧ (-1 : Int32) ≤ nI n - 1 from ⟨by decide, m1_le h6⟩)]
              rfl
            · rw [decide_eq_false q, Bool.false_or]
              by_cases w : 0 ≤ x ∧ x ≤ nI n - 1
              · rw [decide_eq_true w, decide_eq_true]
                refine ⟨?_, w.2⟩
                have := Int32.le_iff_toInt_le.mp w.1
                rw [Int32.le_iff_toInt_le, show (-1 : Int32).toInt = -1 by decide]
                rw [show (0 : Int32).toInt = 0 by decide] at this
                omega
              · rw [decide_eq_false w, decide_eq_false (fun z => w ⟨ax_m1 z.1 q, z.2⟩)]
          by_cases A : hs_all (fun h => decide (-1 ≤ σ 80 (40 * c + u + h) ∧ σ 80 (40 * c + u + h) ≤ nI n - 1)) 12 = true
          · have AX := al.trans A
            have N' : rN (ax_up σ 0 8 0) n h := hN.fr (fun a a1 a2 => up_ne (by omega)) (up_ne (by decide)) (by rw [up_ne (by decide)])
            have f1 : ax_fr 29 39 (ax_up σ 0 8 0) (hp_dy (xB (ax_up σ 0 8 0)) 29 n) := fr_dy fr_bc
            have Dy : ∀ j, j < 12 → hp_dy (xB (ax_up σ 0 8 0)) 29 n 38 j = DY (xK (ax_up σ 0 8 0) n) j := fun j hj => hp_dy_y (p := 29) (by omega) hj
            generalize hη : hp_dy (xB (ax_up σ 0 8 0)) 29 n = η at f1 Dy WX
            have g : ∀ a, a ≠ 0 → (a < 29 ∨ 39 ≤ a) → η a = σ a := fun a a0 ha => (f1 a ha).trans (up_ne a0)
            have e81 : ax_up (ax_up η 77 0 0) 77 1 0 81 = ax_up σ 0 8 0 81 := by rw [up_ne (by decide), up_ne (by decide), f1 81 (by decide)]
            have KEq := KE N' e81
            have d7 : n ≤ 7 := by omega
            have WM := w_X7_judge (ad := ad) F (l := l) (σ := η) (n := n) (by rw [g 81 (by decide) (by decide)]; exact wf.1) h6 (fun c hc => by rw [g 79 (by decide) (by decide)]; exact hR.lm c hc) (row := nI c) (i := nI u)
            rw [cl, ul, g 78 (by decide) (by decide), g 79 (by decide) (by decide), g 80 (by decide) (by decide), up_o (by decide), g 77 (by decide) (by decide), ← e9] at WM
            refine ⟨_, η, md_go (ly_S (ax_up (ax_up η 77 0 0) 77 1 0) n n) n, WX.ans rfl (by rw [if_neg h0, if_pos C, if_neg th, if_pos P, if_pos AX]), WM.ans ?_ (by rw [if_neg h0, if_pos C, if_neg tm, if_pos PM, if_pos A]), ?_⟩
            · rw [if_neg h0, if_pos C, if_neg tm, if_pos PM, if_pos A, if_neg h0, if_pos C, if_neg th, if_pos P, if_pos AX]
              refine ju_c 12 0 (fun j hj => ?_)
              have hj' : j < 12 := by omega
              rw [it j hj', Dy j hj', md_y d7 (KD N' e81) hj', ← DY_c KEq hj']
              have ix := hs_all_iff.mp A j hj'
              exact ju_1 h6 (of_decide_eq_true ix) (dd_y_in (K := xK (ax_up σ 0 8 0) n) 12 j)
            · have R1 : RR (ax_up (ax_up (ax_up σ 0 8 0) 77 0 0) 77 1 0) := R.fo0 (v := 0)
              refine R1.sm (sm.tr (sm.tr ?_ (sm.ly (n := n))) sm.md)
              refine ⟨fun a ha => ?_, fun j j0 j1 j2 j3 => ?_⟩
              · rw [up_ne (by omega), up_ne (by omega), up_ne (by omega), up_ne (by omega), f1 a (by omega)]
              · by_cases e1 : j = 1
                · subst e1
                  rw [up_s, up_s]
                · rw [up_o e1, up_o e1, up_o j0, up_o j0, f1 77 (by decide)]
          · have AX : ¬ hs_all (fun h => decide (σ (42 + 2 * c) (u + h) = -1) || decide (0 ≤ σ (42 + 2 * c) (u + h) ∧ σ (42 + 2 * c) (u + h) ≤ nI n - 1)) 12 = true := by rw [al]; exact A
            exact ⟨_, _, _, WX.ans (by rw [if_neg h0, if_pos C, if_neg th, if_pos P, if_neg AX]) (by rw [if_neg h0, if_pos C, if_neg th, if_pos P, if_neg AX]), WM0.ans (by rw [if_neg m0, if_pos C, if_neg tm, if_pos PM, if_neg A]) (by rw [if_neg m0, if_pos C, if_neg tm, if_pos PM, if_neg A]), R.sm sm.u0⟩
        · have PM : ¬ (0 ≤ i ∧ i.toInt + (12 : Int32).toInt ≤ (σ 79 c).toInt) := by
            rw [← rc.2.1]
            exact fun z => P (pl.mpr ⟨z.1, by decide, z.2⟩)
          have e78 : ax_up σ 0 8 2 78 = σ 78 := up_ne (by decide)
          have e79 : ax_up σ 0 8 2 79 = σ 79 := up_ne (by decide)
          exact ⟨_, _, _, WX.ans (by rw [if_neg h0, if_pos C, if_neg th, if_neg P]) (by rw [if_neg h0, if_pos C, if_neg th, if_neg P]), (w_X7_judge F (σ := ax_up σ 0 8 2) (n := n) (by rw [up_ne (by decide)]; exact wf.1) h6 (lmS 2)).ans (by rw [if_neg (by rw [s0]; exact h0), if_pos C, cl, e78, e79, if_neg tm, if_neg PM]) (by rw [if_neg (by rw [s0]; exact h0), if_pos C, cl, e78, e79, if_neg tm, if_neg PM]), R.fo0 (v := 2)⟩
    · exact ⟨_, _, _, WX.ans (by rw [if_neg h0, if_neg C]) (by rw [if_neg h0, if_neg C]), WM0.ans (by rw [if_neg m0, if_neg C]) (by rw [if_neg m0, if_neg C]), R.sm sm.u0⟩
