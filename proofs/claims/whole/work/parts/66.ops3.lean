/-! calls on both sides, third part: copy, as, ask, feed -/
theorem pl_cp {i n L : Int32} {len : Nat} (hL : L = nI len) (hl : len ≤ 40) : (0 ≤ i ∧ 0 ≤ n ∧ i ≤ L ∧ n ≤ L - i) ↔ (0 ≤ i ∧ 0 ≤ n ∧ i.toInt + n.toInt ≤ L.toInt) := by
  constructor
  · intro h
    obtain ⟨u, v, e1, e2, e3⟩ := ax_plc hL hl h
    refine ⟨h.1, h.2.1, ?_⟩
    rw [e1, e2, hL, nI_toInt (by omega), nI_toInt (by omega), nI_toInt (by omega)]
    omega
  · intro h
    obtain ⟨u, v, e1, e2, e3⟩ := mj_ix hL hl h.1 h.2.1 h.2.2
    subst e1
    subst e2
    exact ax_plc' hL hl e3
theorem rRr.th {σ : ax_Z} {r : Nat} (h : rRr σ r) : ¬ σ (41 + 2 * r) 1 = 0 ↔ 0 ≤ σ 78 r := by
  rcases h.1 with ⟨q1, q2⟩ | ⟨q1, q2, l, q3, q4⟩
  · rw [q1, q2]
    decide
  · rw [q1, q4]
    exact ⟨fun _ => nI_pos' (by omega), fun _ => by decide⟩
theorem rRr.ln {σ : ax_Z} {r : Nat} (h : rRr σ r) (t : ¬ σ (41 + 2 * r) 1 = 0) : σ (41 + 2 * r) 2 = σ 78 r := by
  rcases h.1 with ⟨q1, q2⟩ | ⟨q1, q2, l, q3, q4⟩
  · exact absurd q1 t
  · exact q2
theorem cpu_ne {σ : ax_Z} {s d k a : Nat} (h : a ≠ 80) : cpu σ s d k a = σ a := by
  funext b
  exact if_neg (fun z => h z.1)
theorem cpu_in {σ : ax_Z} {s d k b : Nat} (h1 : d ≤ b) (h2 : b < d + k) : cpu σ s d k 80 b = σ 80 (s + (b - d)) := if_pos ⟨rfl, h1, h2⟩
theorem cpu_o {σ : ax_Z} {s d k b : Nat} (h : b < d ∨ d + k ≤ b) : cpu σ s d k 80 b = σ 80 b := if_neg (fun z => by omega)
theorem op_copy {σ : ax_Z} (R : RR σ) (a i b j n : Int32) : OP iX6_copy iX7_copy 2 2 [.int a, .int i, .int b, .int j, .int n] σ := by
  intro Y ad l F
  have hR := R.2.2.1
  by_cases C : (0 ≤ a ∧ a ≤ 7) ∧ (0 ≤ b ∧ b ≤ 7)
  · obtain ⟨ca, hca, rfl⟩ := ax_ix (m := 7) (by decide) C.1
    obtain ⟨cb, hcb, rfl⟩ := ax_ix (m := 7) (by decide) C.2
    have cla : (nI ca).toNatClampNeg = ca := nI_clamp (by omega)
    have clb : (nI cb).toNatClampNeg = cb := nI_clamp (by omega)
    have ra := hR ca (by omega)
    have rb := hR cb (by omega)
    have lmS : ∀ v, ∀ c, c < 8 → ∃ len, len ≤ 40 ∧ ax_up σ 0 8 v 79 c = nI len := fun v c hc => by
      rw [up_ne (by decide)]
      exact hR.lm c hc
    by_cases th : ¬ σ (41 + 2 * ca) 1 = 0 ∧ ¬ σ (41 + 2 * cb) 1 = 0
    · have thM : ∀ v, 0 ≤ ax_up σ 0 8 v 78 ca ∧ 0 ≤ ax_up σ 0 8 v 78 cb := fun v => by
        rw [up_ne (by decide)]
        exact ⟨ra.th.mp th.1, rb.th.mp th.2⟩
      have ela := ra.ln th.1
      have elb := rb.ln th.2
      by_cases le : σ (41 + 2 * ca) 2 = σ (41 + 2 * cb) 2
      · have leM : σ 78 ca = σ 78 cb := by rw [← ela, ← elb]; exact le
        obtain ⟨lena, la1, la2⟩ := ra.2.2.1
        obtain ⟨lenb, lb1, lb2⟩ := rb.2.2.1
        have la3 : σ (41 + 2 * ca) 3 = nI lena := ra.2.1.trans la2
        have lb3 : σ (41 + 2 * cb) 3 = nI lenb := rb.2.1.trans lb2
        have pa := pl_cp (i := i) (n := n) la3 la1
        have pb := pl_cp (i := j) (n := n) lb3 lb1
        by_cases P : (0 ≤ i ∧ 0 ≤ n ∧ i ≤ σ (41 + 2 * ca) 3 ∧ n ≤ σ (41 + 2 * ca) 3 - i) ∧ (0 ≤ j ∧ 0 ≤ n ∧ j ≤ σ (41 + 2 * cb) 3 ∧ n ≤ σ (41 + 2 * cb) 3 - j)
        · have PM : (0 ≤ i ∧ 0 ≤ j ∧ 0 ≤ n ∧ i.toInt + n.toInt ≤ (σ 79 ca).toInt ∧ j.toInt + n.toInt ≤ (σ 79 cb).toInt) := by
            rw [← ra.2.1, ← rb.2.1]
            exact ⟨P.1.1, P.2.1, P.1.2.1, (pa.mp P.1).2.2, (pb.mp P.2).2.2⟩
          obtain ⟨u, w, e1, e2, e3⟩ := ax_plc la3 la1 P.1
          obtain ⟨u2, w2, f1, f2, f3⟩ := ax_plc lb3 lb1 P.2
          have ew : w2 = w := by
            rw [e2] at f2
            exact ((nI_eq (by omega) (by omega)).mp f2).symm
          subst ew
          subst e1
          subst e2
          subst f1
          have t78 : ∀ r, ax_up (ax_cp σ (42 + 2 * ca) (42 + 2 * cb) u u2 w2) 0 8 0 78 r = σ 78 r := fun r => by rw [up_ne (by decide), cp_ne (by omega)]
          have t79 : ∀ r, ax_up (ax_cp σ (42 + 2 * ca) (42 + 2 * cb) u u2 w2) 0 8 0 79 r = σ 79 r := fun r => by rw [up_ne (by decide), cp_ne (by omega)]
          refine ⟨_, _, _, (w_X6_copy F hR.lx).ans (by rw [if_pos C, cla, clb, if_pos th, if_pos le, if_pos P]) (by rw [if_pos C, cla, clb, if_pos th, if_pos le, if_pos P, nI_clamp (by omega), nI_clamp (by omega), nI_clamp (by omega)]), (w_X7_copy F (fun c hc => by rw [t79]; exact hR.lm c hc)).ans (by rw [if_pos C, cla, clb, t78, t78, t79, t79, if_pos ⟨ra.th.mp th.1, rb.th.mp th.2⟩, if_pos leM, if_pos PM]) (by rw [if_pos C, cla, clb, t78, t78, t79, t79, if_pos ⟨ra.th.mp th.1, rb.th.mp th.2⟩, if_pos leM, if_pos PM, nI_clamp (by omega), nI_clamp (by omega), nI_clamp (by omega)]), ?_⟩
          refine R.rw (fun a a0 a7 a1 a2 => ?_) (fun j hj => ?_) (fun j h1 h0 => ?_) (fun r hr => ?_) ?_
          · simp (disch := omega) only [cpu_ne, up_ne, cp_ne]
          · simp (disch := omega) only [cpu_ne, up_ne, cp_ne, up_o]
          · simp (disch := omega) only [cpu_ne, up_ne, cp_ne, up_o]
          · have i1 := hR r hr
            by_cases e : r = cb
            · subst e
              refine ⟨?_, ?_, ?_, fun k hk => ?_⟩
              · simp (disch := omega) only [cpu_ne, up_ne, cp_ne]
                exact i1.1
              · simp (disch := omega) only [cpu_ne, up_ne, cp_ne]
                exact i1.2.1
              · simp (disch := omega) only [cpu_ne, up_ne, cp_ne]
                exact i1.2.2.1
              · by_cases ek : u2 ≤ k ∧ k < u2 + w2
                · rw [cpu_in (by omega) (by omega)]
                  simp (disch := omega) only [cpu_ne, up_ne, cp_ne]
                  rw [cp_in ek.1 ek.2, ra.2.2.2 _ (by omega)]
                  congr 1
                  omega
                · rw [cpu_o (by omega)]
                  simp (disch := omega) only [cpu_ne, up_ne, cp_ne]
                  rw [cp_out (by omega)]
                  exact i1.2.2.2 k hk
            · refine i1.fr ?_ ?_ ?_ ?_ (fun k hk => ?_)
              · simp (disch := omega) only [cpu_ne, up_ne, cp_ne]
              · simp (disch := omega) only [cpu_ne, up_ne, cp_ne]
              · simp (disch := omega) only [cpu_ne, up_ne, cp_ne]
              · simp (disch := omega) only [cpu_ne, up_ne, cp_ne]
              · rw [cpu_o (by omega)]
                simp (disch := omega) only [cpu_ne, up_ne, cp_ne]
          · simp (disch := omega) only [cpu_ne, up_ne, up_s]
        · have PM : ¬ (0 ≤ i ∧ 0 ≤ j ∧ 0 ≤ n ∧ i.toInt + n.toInt ≤ (σ 79 ca).toInt ∧ j.toInt + n.toInt ≤ (σ 79 cb).toInt) := by
            rw [← ra.2.1, ← rb.2.1]
            exact fun z => P ⟨pa.mpr ⟨z.1, z.2.2.1, z.2.2.2.1⟩, pb.mpr ⟨z.2.1, z.2.2.1, z.2.2.2.2⟩⟩
          have e78 : ax_up σ 0 8 2 78 = σ 78 := up_ne (by decide)
          have e79 : ax_up σ 0 8 2 79 = σ 79 := up_ne (by decide)
          exact ⟨_, _, _, (w_X6_copy F hR.lx).ans (by rw [if_pos C, cla, clb, if_pos th, if_pos le, if_neg P]) (by rw [if_pos C, cla, clb, if_pos th, if_pos le, if_neg P]), (w_X7_copy F (lmS 2)).ans (by rw [if_pos C, cla, clb, if_pos (thM 2), e78, e79, if_pos leM, if_neg PM]) (by rw [if_pos C, cla, clb, if_pos (thM 2), e78, e79, if_pos leM, if_neg PM]), R.fo (v := 2)⟩
      · have leM : ¬ σ 78 ca = σ 78 cb := by rw [← ela, ← elb]; exact le
        have e78 : ax_up σ 0 8 5 78 = σ 78 := up_ne (by decide)
        exact ⟨_, _, _, (w_X6_copy F hR.lx).ans (by rw [if_pos C, cla, clb, if_pos th, if_neg le]) (by rw [if_pos C, cla, clb, if_pos th, if_neg le]), (w_X7_copy F (lmS 5)).ans (by rw [if_pos C, cla, clb, if_pos (thM 5), e78, if_neg leM]) (by rw [if_pos C, cla, clb, if_pos (thM 5), e78, if_neg leM]), R.fo (v := 5)⟩
    · have thM : ¬ (0 ≤ ax_up σ 0 8 1 78 ca ∧ 0 ≤ ax_up σ 0 8 1 78 cb) := by
        rw [up_ne (by decide)]
        exact fun z => th ⟨ra.th.mpr z.1, rb.th.mpr z.2⟩
      exact ⟨_, _, _, (w_X6_copy F hR.lx).ans (by rw [if_pos C, cla, clb, if_neg th]) (by rw [if_pos C, cla, clb, if_neg th]), (w_X7_copy F (lmS 1)).ans (by rw [if_pos C, cla, clb, if_neg thM]) (by rw [if_pos C, cla, clb, if_neg thM]), R.fo (v := 1)⟩
  · exact ⟨_, _, _, (w_X6_copy F hR.lx).ans (by rw [if_neg C]) (by rw [if_neg C]), (w_X7_copy F hR.lm).ans (by rw [if_neg C]) (by rw [if_neg C]), R.sm sm.u0⟩
theorem mo_kd {k w : Nat} (hk : k < 6) (hw : w < 6) : mo_is (nI k) (nI w) = kd_is k w := by
  have : ∀ k w : Fin 6, mo_is (nI k.1) (nI w.1) = kd_is k.1 w.1 := by decide
  exact this ⟨k, hk⟩ ⟨w, hw⟩
theorem op_as {σ : ax_Z} (R : RR σ) (cart k : Int32) : OP iX6_as iX7_as 2 2 [.int cart, .int k] σ := by
  intro Y ad l F
  obtain ⟨⟨n, h, m, ⟨wf, xp, -, -⟩, -⟩, -⟩ := id R
  have h6 := wf.2.1
  have hkf : ∀ c, c < n → σ 16 c = nI (σ 16 c).toNatClampNeg ∧ 1 ≤ (σ 16 c).toNatClampNeg ∧ (σ 16 c).toNatClampNeg ≤ 5 := fun c hc => by
    obtain ⟨k, k1, k5, ke⟩ := (wf.2.2.2.2.2 c hc).1
    have e : σ 16 c = nI k := (xp.2.2.2.1 c 0 hc (by decide)).trans ke
    rw [e, nI_clamp (by omega)]
    exact ⟨rfl, k1, k5⟩
  have WX := w_X6_as (ad := ad) F (l := l) (σ := σ) (xp.1.trans wf.1) wf.2.1 (kf := fun c => (σ 16 c).toNatClampNeg) hkf (cart := cart) (k := k)
  by_cases C : (0 ≤ cart ∧ cart ≤ nI n - 1) ∧ (0 ≤ k ∧ k ≤ 5)
  · obtain ⟨c, hc, rfl⟩ := ax_ixN (by omega) C.1
    obtain ⟨w, hw, rfl⟩ := ax_ix (m := 5) (by decide) C.2
    have cl : (nI c).toNatClampNeg = c := nI_clamp (by omega)
    have wl : (nI w).toNatClampNeg = w := nI_clamp (by omega)
    have e : mo_is (σ 81 (8 + 6 * c + 0)) (nI w) = kd_is (σ 16 c).toNatClampNeg w := by
      rw [← mo_kd (by have := (hkf c hc).2.2; omega) (by omega), ← (hkf c hc).1]
      congr 1
      exact (xp.2.2.2.1 c 0 hc (by decide)).symm
    by_cases d : kd_is (σ 16 c).toNatClampNeg w = true
    · refine ⟨_, _, _, WX.ans (by rw [if_pos C, cl, wl, if_pos d]) (by rw [if_pos C, cl, wl, if_pos d]), (w_X7_as F (n := n) (by rw [up_ne (by decide)]; exact wf.1) h6).ans ?_ ?_, R.fo0 (v := 0)⟩
      · rw [if_pos C, cl, up_ne (by decide), e, if_pos d]
      · rw [if_pos C, cl, up_ne (show (81 : Nat) ≠ 0 by decide), e, if_pos d]
    · refine ⟨_, _, _, WX.ans (by rw [if_pos C, cl, wl, if_neg d]) (by rw [if_pos C, cl, wl, if_neg d]), (w_X7_as F (n := n) (by rw [up_ne (by decide)]; exact wf.1) h6).ans ?_ ?_, R.fo (v := 3)⟩
      · rw [if_pos C, cl, up_ne (by decide), e, if_neg d]
      · rw [if_pos C, cl, up_ne (show (81 : Nat) ≠ 0 by decide), e, if_neg d]
  · exact ⟨_, _, _, WX.ans (by rw [if_neg C]) (by rw [if_neg C]), (w_X7_as F wf.1 h6).ans (by rw [if_neg C]) (by rw [if_neg C]), R.sm sm.u0⟩
/-! the trace -/
theorem as_c_ne {a : Nat} (h : a ≠ 39 ∧ a ≠ 40) : ∀ (bs : List Int32) (σ : ax_Z) (t : Nat), as_c σ t bs a = σ a := by
  intro bs
  induction bs with
  | nil => intro σ t; rfl
  | cons b bs ih => intro σ t; rw [as_c, ih, as_ne h]
theorem as_c_39 : ∀ (bs : List Int32) (σ : ax_Z) (t : Nat), σ 39 1 = nI t → as_c σ t bs 39 1 = nI (t + bs.length) := by
  intro bs
  induction bs with
  | nil => intro σ t h; exact h
  | cons b bs ih =>
    intro σ t _
    rw [as_c, ih _ _ as_l, List.length_cons]
    congr 1
    omega
theorem as_c_40 : ∀ (bs : List Int32) (σ : ax_Z) (t i : Nat), as_c σ t bs 40 i = if t ≤ i ∧ i < t + bs.length then bs.getD (i - t) 0 else σ 40 i := by
  intro bs
  induction bs with
  | nil =>
    intro σ t i
    rw [if_neg (by simp only [List.length_nil]; omega)]
    rfl
  | cons b bs ih =>
    intro σ t i
    rw [as_c, ih, List.length_cons]
    unfold as_p
    by_cases e : i = t
    · subst e
      rw [if_neg (by omega), if_pos (by omega), Nat.sub_self, up_ne (by decide), up_s]
      rfl
    · rw [up_ne (by decide), up_o e]
      by_cases e2 : t + 1 ≤ i ∧ i < t + 1 + bs.length
      · rw [if_pos e2, if_pos (by omega)]
        obtain ⟨d, hd⟩ : ∃ d, i - t = d + 1 := ⟨i - t - 1, by omega⟩
        rw [hd, show i - (t + 1) = d by omega]
        rfl
      · rw [if_neg e2, if_neg (by omega)]
theorem mp_c_ne {a : Nat} (h : a ≠ 77 ∧ a ≠ 95) : ∀ (bs : List Int32) (σ : ax_Z) (t : Nat), mp_c σ t bs a = σ a := by
  intro bs
  induction bs with
  | nil => intro σ t; rfl
  | cons b bs ih =>
    intro σ t
    rw [mp_c, ih]
    unfold mp_p
    rw [up_ne h.1, up_ne h.2]
theorem mp_c_77 {j : Nat} (h : j ≠ 34) : ∀ (bs : List Int32) (σ : ax_Z) (t : Nat), mp_c σ t bs 77 j = σ 77 j := by
  intro bs
  induction bs with
  | nil => intro σ t; rfl
  | cons b bs ih =>
    intro σ t
    rw [mp_c, ih]
    unfold mp_p
    rw [up_o h, up_ne (by decide)]
theorem mp_c_34 : ∀ (bs : List Int32) (σ : ax_Z) (t : Nat), σ 77 34 = nI t → mp_c σ t bs 77 34 = nI (t + bs.length) := by
  intro bs
  induction bs with
  | nil => intro σ t h; exact h
  | cons b bs ih =>
    intro σ t _
    rw [mp_c, ih _ _ mp_l, List.length_cons]
    congr 1
    omega
theorem mp_c_95 : ∀ (bs : List Int32) (σ : ax_Z) (t i : Nat), mp_c σ t bs 95 i = if t ≤ i ∧ i < t + bs.length then bs.getD (i - t) 0 else σ 95 i := by
  intro bs
  induction bs with
  | nil =>
    intro σ t i
    rw [if_neg (by simp only [List.length_nil]; omega)]
    rfl
  | cons b bs ih =>
    intro σ t i
    rw [mp_c, ih, List.length_cons]
    unfold mp_p
    by_cases e : i = t
    · subst e
      rw [if_neg (by omega), if_pos (by omega), Nat.sub_self, up_ne (by decide), up_s]
      rfl
    · rw [up_ne (by decide), up_o e]
      by_cases e2 : t + 1 ≤ i ∧ i < t + 1 + bs.length
      · rw [if_pos e2, if_pos (by omega)]
        obtain ⟨d, hd⟩ : ∃ d, i - t = d + 1 := ⟨i - t - 1, by omega⟩
        rw [hd, show i - (t + 1) = d by omega]
        rfl
      · rw [if_neg e2, if_neg (by omega)]
def tr_S (σ : ax_Z) (bs : List Int32) : ax_Z := mp_c (ax_up (ax_up (as_c (ax_up σ 39 1 0) 0 bs) 77 0 0) 77 34 0) 0 bs
theorem tr_ne {σ : ax_Z} {bs : List Int32} {a : Nat} (h : a ≠ 39 ∧ a ≠ 40 ∧ a ≠ 77 ∧ a ≠ 95) : tr_S σ bs a = σ a := by
  unfold tr_S
  rw [mp_c_ne ⟨h.2.2.1, h.2.2.2⟩, up_ne h.2.2.1, up_ne h.2.2.1, as_c_ne ⟨h.1, h.2.1⟩, up_ne h.1]
theorem tr_77 {σ : ax_Z} {bs : List Int32} {j : Nat} (h : j ≠ 34) (h0 : j ≠ 0) : tr_S σ bs 77 j = σ 77 j := by
  unfold tr_S
  rw [mp_c_77 h, up_o h, up_o h0, as_c_ne (by decide), up_ne (by decide)]
theorem RR.tr {σ : ax_Z} (H : RR σ) {bs : List Int32} (hb : bs.length ≤ 16) : RR (tr_S σ bs) := by
  obtain ⟨⟨n, h, m, h1, h2⟩, ⟨h3, h4⟩, h5, ⟨t, h6⟩, h7, h8, h9⟩ := H
  have e : ∀ a, a ≠ 39 ∧ a ≠ 40 ∧ a ≠ 77 ∧ a ≠ 95 → tr_S σ bs a = σ a := fun a ha => tr_ne ha
  have e7 : ∀ j, j ≠ 34 → j ≠ 0 → tr_S σ bs 77 j = σ 77 j := fun j a b => tr_77 a b
  refine ⟨⟨n, h, m, h1.fr (fun a a1 a2 => e a (by omega)) (e 81 (by decide)) (e7 7 (by decide) (by decide)), h2.fr (by rw [e 25 (by decide)]) (e 26 (by decide)) (e 27 (by decide)) (e7 9 (by decide) (by decide)) (e 83 (by decide)) (e 81 (by decide))⟩, ⟨h3.fr (fun a a1 a2 => e a (by omega)) (by rw [e 93 (by decide)]) (fun j _ => by rw [e 94 (by decide)]) (Or.inl (e7 7 (by decide) (by decide))), h4.fr (fun a a1 a2 => e a (by omega)) (by rw [e 93 (by decide)]) (fun j _ => by rw [e 94 (by decide)]) (Or.inl (e7 7 (by decide) (by decide)))⟩,
    h5.fr (fun a a1 a2 => e a (by omega)) (e 78 (by decide)) (e 79 (by decide)) (e 80 (by decide)), ⟨t, h6.fr (by rw [e 2 (by decide)]) (e7 11 (by decide) (by decide)) (e 84 (by decide)) (e 3 (by decide))⟩, ?_, ⟨bs.length, hb, ?_, ?_, fun i hi => ?_⟩, h9.fr (e 12 (by decide))⟩
  · unfold rF
    rw [e 0 (by decide), e7 12 (by decide) (by decide), e7 1 (by decide) (by decide)]
    exact h7
  · unfold tr_S
    rw [mp_c_ne (by decide), up_ne (by decide), up_ne (by decide), as_c_39 _ _ _ (by rw [up_s]; rfl), Nat.zero_add]
  · unfold tr_S
    rw [mp_c_34 _ _ _ (by rw [up_s]; rfl), Nat.zero_add]
  · unfold tr_S
    rw [mp_c_95, mp_c_ne (by decide), up_ne (by decide), up_ne (by decide), as_c_40, if_pos (by omega), if_pos (by omega)]
theorem op_ask {σ : ax_Z} (R : RR σ) (cart k : Int32) : OP iX6_ask iX7_ask 6 5 [.int cart, .int k] σ := by
  intro Y ad l F
  obtain ⟨⟨n, h, m, ⟨wf, xp, -, -⟩, -⟩, -⟩ := id R
  have h6 := wf.2.1
  by_cases C : (0 ≤ cart ∧ cart ≤ nI n - 1) ∧ (0 ≤ k ∧ k ≤ 1)
  · obtain ⟨c, hc, rfl⟩ := ax_ixN (by omega) C.1
    obtain ⟨w, hw, rfl⟩ := ax_ix (m := 1) (by decide) C.2
    obtain ⟨kk, k1, k5, ke⟩ := (wf.2.2.2.2.2 c hc).1
    have x0 : σ 16 c = nI kk := (xp.2.2.2.1 c 0 hc (by decide)).trans ke
    have x1 : σ 81 (8 + 6 * c + 1) = σ 17 c := (xp.2.2.2.1 c 1 hc (by decide)).symm
    have x2 : σ 81 (8 + 6 * c + 2) = σ 18 c := (xp.2.2.2.1 c 2 hc (by decide)).symm
    have hn := xp.1.trans wf.1
    have s81 : ∀ bs, as_c (ax_up σ 39 1 0) 0 bs 81 = σ 81 := fun bs => by rw [as_c_ne (by decide), up_ne (by decide)]
    rcases (show w = 0 ∨ w = 1 by omega) with rfl | rfl
    · rcases (show kk = 1 ∨ kk = 2 ∨ kk = 3 ∨ kk = 4 ∨ kk = 5 by omega) with rfl | rfl | rfl | rfl | rfl
      · exact ⟨_, _, _, w_X6_ask_1_1 F hn h6 hc x0, (w_X7_ask_s_1 F (n := n) (by rw [s81]; exact wf.1) h6 hc (by rw [s81]; exact ke)).ans (by rw [s81, x1, x2]) rfl, R.tr (by decide)⟩
      · exact ⟨_, _, _, w_X6_ask_1_2 F hn h6 hc x0, (w_X7_ask_s_2 F (n := n) (by rw [s81]; exact wf.1) h6 hc (by rw [s81]; exact ke)).ans (by rw [s81, x1, x2, Int32.zero_sub]) rfl, R.tr (by decide)⟩
      · exact ⟨_, _, _, w_X6_ask_1_3 F hn h6 hc x0, (w_X7_ask_s_3 F (n := n) (by rw [s81]; exact wf.1) h6 hc (by rw [s81]; exact ke)).ans (by rw [s81, x1, x2]) rfl, R.tr (by decide)⟩
      · exact ⟨_, _, _, w_X6_ask_1_4 F hn h6 hc x0, (w_X7_ask_s_4 F (n := n) (by rw [s81]; exact wf.1) h6 hc (by rw [s81]; exact ke)).ans (by rw [s81, x2]) rfl, R.tr (by decide)⟩
      · exact ⟨_, _, _, w_X6_ask_1_5 F hn h6 hc x0, (w_X7_ask_s_5 F (n := n) (by rw [s81]; exact wf.1) h6 hc (by rw [s81]; exact ke)).ans (by rw [s81, x2]) rfl, R.tr (by decide)⟩
    · rcases (show kk = 1 ∨ kk = 2 ∨ kk = 3 ∨ kk = 4 ∨ kk = 5 by omega) with rfl | rfl | rfl | rfl | rfl
      · exact ⟨_, _, _, w_X6_ask_2_1 F hn h6 hc x0, (w_X7_ask_m_1 F (n := n) (by rw [s81]; exact wf.1) h6 hc (by rw [s81]; exact ke)).ans (by rw [s81, x1]) rfl, R.tr (by decide)⟩
      · exact ⟨_, _, _, w_X6_ask_2_2 F hn h6 hc x0, (w_X7_ask_m_2 F (n := n) (by rw [s81]; exact wf.1) h6 hc (by rw [s81]; exact ke)).ans (by rw [s81, x1]) rfl, R.tr (by decide)⟩
      · exact ⟨_, _, _, w_X6_ask_2_3 F hn h6 hc x0, (w_X7_ask_m_3 F (n := n) (by rw [s81]; exact wf.1) h6 hc (by rw [s81]; exact ke)).ans (by rw [s81, x1]) rfl, R.tr (by decide)⟩
      · exact ⟨_, _, _, w_X6_ask_2_4 F hn h6 hc x0, (w_X7_ask_m_4 F (n := n) (by rw [s81]; exact wf.1) h6 hc (by rw [s81]; exact ke)).ans (by rw [s81, x2]) rfl, R.tr (by decide)⟩
      · exact ⟨_, _, _, w_X6_ask_2_5 F hn h6 hc x0, (w_X7_ask_m_5 F (n := n) (by rw [s81]; exact wf.1) h6 hc (by rw [s81]; exact ke)).ans (by rw [s81, x2]) rfl, R.tr (by decide)⟩
  · exact ⟨_, _, _, w_X6_ask_b F (xp.1.trans wf.1) h6 C, w_X7_ask_b F wf.1 h6 C, R.sm sm.u0⟩
