/-! calls on both sides, eighth part: hour, undo -/
theorem mw_4 {τ : ax_Z} {c : Nat} : ∀ m, c < m → mw_S τ m 81 (8 + 6 * c + 4) = τ 89 c ∧ mw_S τ m 81 (8 + 6 * c + 5) = τ 90 c := by
  intro m
  induction m with
  | zero => intro h; omega
  | succ m ih =>
    intro h
    rw [mw_S]
    by_cases e : c = m
    · subst e
      rw [up_o (by omega), up_s, up_s]
      exact ⟨rfl, rfl⟩
    · rw [up_o (by omega), up_o (by omega), up_o (by omega), up_o (by omega)]
      exact ih (by omega)
theorem mw_k {τ : ax_Z} {c k : Nat} (hk : k < 4) : ∀ m, mw_S τ m 81 (8 + 6 * c + k) = τ 81 (8 + 6 * c + k) := by
  intro m
  induction m with
  | zero => rfl
  | succ m ih => rw [mw_S, up_o (by omega), up_o (by omega), ih]
/-- an hour, on both sides: S the class's cells, T the reference's -/
theorem hour_eq {S T : ax_Z} {n h : Nat} (h6 : n ≤ 6) (hr : S 14 11 = nI h) (h29 : T 77 29 = 0) (hk : kd_ok (T 85) n) (e : ∀ c j, c < n → j < 6 → S (14 + 2 + j) c = T (85 + j) c) (e0 : ∀ c, c < 7 → S 22 c = 0) : hp_f S 14 n = mh_f T n (nI h) ∧ ∀ c, c < n → hp_tr S 14 n c = mh_tr T n (nI h) c := by
  have cc : ∀ c, c < n → S (14 + 2) c = T 85 c ∧ S (14 + 3) c = T 86 c ∧ S (14 + 5) c = T 88 c ∧ S (14 + 6) c = T 89 c := fun c hc => ⟨e c 0 hc (by decide), e c 1 hc (by decide), e c 3 hc (by decide), e c 4 hc (by decide)⟩
  refine ⟨?_, fun c hc => ?_⟩
  · unfold hp_f mh_f
    refine hs_f_c (fun c hc => ?_) (fun c d hc hd => ?_)
    · show hs_rd (S (14 + 2)) (S (14 + 3)) (S (14 + 5)) (S (14 + 6)) (S 14 11) n c = hs_rd (T 85) (T 86) (T 88) (T 89) (nI h) n c
      rw [hr]
      exact hs_rd_c cc c hc
    · show hs_ah (S (14 + 2)) (S (14 + 3)) (S (14 + 8)) c d = hs_ah (T 85) (T 86) (if T 77 29 = 0 then fun _ => 0 else T 92) c d
      rw [if_pos h29]
      unfold hs_ah
      rw [(cc c hc).1, (cc d hd).1, (cc c hc).2.1, (cc d hd).2.1, show S (14 + 8) c = 0 from e0 c (by omega), show S (14 + 8) d = 0 from e0 d (by omega)]
  · rw [mh_tr_eq hk hc]
    show hs_tr (S (14 + 2)) (S (14 + 3)) (S (14 + 5)) (S (14 + 6)) (S 14 11) n c = _
    rw [hr]
    exact hs_tr_c cc c hc
theorem hs_tr_st {kind come pat went : Nat → Int32} {hr : Int32} {n c : Nat} (h : hs_tr kind come pat went hr n c = true) : went c = -1000000 := by
  unfold hs_tr hs_rd hs_st at h
  simp only [Bool.or_eq_true, Bool.and_eq_true, decide_eq_true_eq] at h
  rcases h with h | h
  · exact h.1.2
  · exact h.2.2
theorem hour_core {S T : ax_Z} {n h : Nat} (h6 : n ≤ 6) (h12 : h < 12) (hr : S 14 11 = nI h) (h29 : T 77 29 = 0) (hk : kd_ok (T 85) n) (e : ∀ c j, c < n → j < 6 → S (14 + 2 + j) c = T (85 + j) c) (e0 : ∀ c, c < 7 → S 22 c = 0) (et : ∀ t, t < 6 → S 15 t = T 81 (2 + t)) (hw : ∀ c, c < n → T 89 c = -1000000 ∨ ∃ w : Nat, w < h ∧ T 89 c = nI w) :
    ∀ c, c < n → hp_go S 14 n h 20 c = mh_go T n h 89 c ∧ hp_go S 14 n h 21 c = mh_go T n h 90 c ∧ ((mh_go T n h 89 c = nI h ∧ T 89 c = -1000000) ∨ (¬ mh_go T n h 89 c = nI h ∧ mh_go T n h 89 c = T 89 c ∧ mh_go T n h 90 c = T 90 c)) := by
  obtain ⟨fE, tE⟩ := hour_eq h6 hr h29 hk e e0
  have nh : ∀ c, c < n → ¬ T 89 c = nI h := fun c hc z => by
    rcases hw c hc with q | ⟨w, w1, w2⟩
    · rw [q] at z
      exact nI_none (k := h) (by omega) z.symm
    · rw [w2] at z
      have := (nI_eq (by omega) (by omega)).mp z
      omega
  intro c hc
  have x4 : S 20 c = T 89 c := e c 4 hc (by decide)
  have x5 : S 21 c = T 90 c := e c 5 hc (by decide)
  unfold hp_go mh_go
  rw [← fE]
  cases hf : hp_f S 14 n with
  | none =>
    show ax_up S 14 11 (nI (h + 1)) 20 c = ax_up T 91 h (-1000000) 89 c ∧ ax_up S 14 11 (nI (h + 1)) 21 c = ax_up T 91 h (-1000000) 90 c ∧ ((ax_up T 91 h (-1000000) 89 c = nI h ∧ T 89 c = -1000000) ∨ (¬ ax_up T 91 h (-1000000) 89 c = nI h ∧ ax_up T 91 h (-1000000) 89 c = T 89 c ∧ ax_up T 91 h (-1000000) 90 c = T 90 c))
    rw [up_ne (by decide), up_ne (by decide), up_ne (by decide), up_ne (by decide)]
    exact ⟨x4, x5, Or.inr ⟨nh c hc, rfl, rfl⟩⟩
  | some f =>
    obtain ⟨f1, f2⟩ := hs_f_lt hf
    have f3 : hp_tr S 14 n f = true := by
      show hs_tr _ _ _ _ _ _ _ = true
      unfold hs_tr
      rw [show hs_rd (S (14 + 2)) (S (14 + 3)) (S (14 + 5)) (S (14 + 6)) (S 14 11) n f = true from f2]
      rfl
    have cm : ms_c (hp_tr S 14 n) n = ms_c (mh_tr T n (nI h)) n := ms_c_c tE
    have ct : hs_toll (S (14 + 1)) (ms_c (hp_tr S 14 n) n) = hs_toll (fun t => T 81 (2 + t)) (ms_c (mh_tr T n (nI h)) n) := by
      rw [cm]
      exact hs_toll_c et
    have a1 : ax_up (hs_gone (ax_up (ax_up S (14 + 9) h (nI f)) (14 + 7) f (hs_toll (S (14 + 1)) (ms_c (hp_tr S 14 n) n))) (14 + 6) (hp_tr S 14 n) (nI h) n) 14 11 (nI (h + 1)) 20 c = if hp_tr S 14 n c = true then nI h else T 89 c := by
      rw [up_ne (by decide)]
      unfold hs_gone
      rw [up_ne (by decide), up_ne (by decide), x4]
      simp only [hc, true_and]
    have a2 : ax_up (hs_gone (ax_up (ax_up S (14 + 9) h (nI f)) (14 + 7) f (hs_toll (S (14 + 1)) (ms_c (hp_tr S 14 n) n))) (14 + 6) (hp_tr S 14 n) (nI h) n) 14 11 (nI (h + 1)) 21 c = if c = f then hs_toll (fun t => T 81 (2 + t)) (ms_c (mh_tr T n (nI h)) n) else T 90 c := by
      rw [up_ne (by decide), hs_gone_ne (by decide)]
      by_cases ec : c = f
      · subst ec
        rw [if_pos rfl, ← ct]
        exact up_s
      · rw [if_neg ec, show ax_up (ax_up S (14 + 9) h (nI f)) (14 + 7) f (hs_toll (S (14 + 1)) (ms_c (hp_tr S 14 n) n)) 21 c = ax_up S (14 + 9) h (nI f) 21 c from up_o ec, up_ne (by decide), x5]
    have b1 : ax_up (ax_up (hs_gone (ax_up T 91 h (nI f)) 89 (mh_tr T n (nI h)) (nI h) n) 90 f (hs_toll (fun t => T 81 (2 + t)) (ms_c (mh_tr T n (nI h)) n))) 92 f (T 92 f + 1) 89 c = if hp_tr S 14 n c = true then nI h else T 89 c := by
      rw [up_ne (by decide), up_ne (by decide)]
      unfold hs_gone
      rw [up_ne (by decide), ← tE c hc]
      simp only [hc, true_and]
    have b2 : ax_up (ax_up (hs_gone (ax_up T 91 h (nI f)) 89 (mh_tr T n (nI h)) (nI h) n) 90 f (hs_toll (fun t => T 81 (2 + t)) (ms_c (mh_tr T n (nI h)) n))) 92 f (T 92 f + 1) 90 c = if c = f then hs_toll (fun t => T 81 (2 + t)) (ms_c (mh_tr T n (nI h)) n) else T 90 c := by
      rw [up_ne (by decide)]
      by_cases ec : c = f
      · subst ec
        rw [if_pos rfl, up_s]
      · rw [if_neg ec, up_o ec, hs_gone_ne (by decide), up_ne (by decide)]
    refine ⟨a1.trans b1.symm, a2.trans b2.symm, ?_⟩
    show (ax_up (ax_up (hs_gone (ax_up T 91 h (nI f)) 89 (mh_tr T n (nI h)) (nI h) n) 90 f (hs_toll (fun t => T 81 (2 + t)) (ms_c (mh_tr T n (nI h)) n))) 92 f (T 92 f + 1) 89 c = nI h ∧ _) ∨ (¬ ax_up (ax_up (hs_gone (ax_up T 91 h (nI f)) 89 (mh_tr T n (nI h)) (nI h) n) 90 f (hs_toll (fun t => T 81 (2 + t)) (ms_c (mh_tr T n (nI h)) n))) 92 f (T 92 f + 1) 89 c = nI h ∧ ax_up (ax_up (hs_gone (ax_up T 91 h (nI f)) 89 (mh_tr T n (nI h)) (nI h) n) 90 f (hs_toll (fun t => T 81 (2 + t)) (ms_c (mh_tr T n (nI h)) n))) 92 f (T 92 f + 1) 89 c = _ ∧ ax_up (ax_up (hs_gone (ax_up T 91 h (nI f)) 89 (mh_tr T n (nI h)) (nI h) n) 90 f (hs_toll (fun t => T 81 (2 + t)) (ms_c (mh_tr T n (nI h)) n))) 92 f (T 92 f + 1) 90 c = _)
    rw [b1, b2]
    by_cases ht : hp_tr S 14 n c = true
    · rw [if_pos ht]
      refine Or.inl ⟨rfl, ?_⟩
      rw [← x4]
      exact hs_tr_st ht
    · rw [if_neg ht]
      refine Or.inr ⟨nh c hc, rfl, ?_⟩
      rw [if_neg (fun z => ht (by rw [z]; exact f3))]
theorem op_hour {σ : ax_Z} (R : RR σ) : OP iX6_hour iX7_hour 3 4 [] σ := by
  intro Y ad l F
  obtain ⟨⟨n, h, m, hN, hA⟩, -⟩ := id R
  obtain ⟨wf, xp, e9, b9⟩ := id hN
  have h6 := wf.2.1
  have b9' : σ 14 9 = 0 ∨ σ 14 9 = 1 := by rw [e9]; exact b9
  have hr : σ 14 11 = nI h := xp.2.1.trans wf.2.2.1
  have WX := w_X6_hour (ad := ad) F (l := l) (σ := σ) (xp.1.trans wf.1) h6 b9' hr wf.2.2.2.1 hA.1 hA.2.2.1
  have WM0 := w_X7_hour (ad := ad) F (l := l) (σ := σ) wf.1 h6 hA.2.1 hA.2.2.1 wf.2.2.1 wf.2.2.2.1
  have m0e : ax_up σ 77 0 0 77 7 = σ 14 9 := by rw [up_o (by decide), e9]
  by_cases h0 : σ 14 9 = 0
  · have m0 : ax_up σ 77 0 0 77 7 = 0 := m0e.trans h0
    exact ⟨_, _, _, WX.ans (by rw [if_pos h0]) (by rw [if_pos h0]), WM0.ans (by rw [if_pos m0]) (by rw [if_pos m0]), R.sm sm.u0⟩
  · have m0 : ¬ ax_up σ 77 0 0 77 7 = 0 := by rw [m0e]; exact h0
    by_cases hh : nI h ≤ 11
    · have h12 : h < 12 := by
        have := wf.2.2.2.1
        have q := (nI_leI (b := 11) (by omega) (by decide)).mp hh
        omega
      have S0 : ∀ a, a ≠ 25 ∧ a ≠ 26 ∧ a ≠ 27 → ac_keep σ m (-1) 0 a = σ a := fun a ha => ac_ne ha
      generalize hS : ac_keep σ m (-1) 0 = S at WX S0
      have X0 : ∀ a, (a < 14 ∨ 24 ≤ a) → a ≠ 25 ∧ a ≠ 26 ∧ a ≠ 27 → hp_go S 14 n h a = σ a := fun a a1 a2 => (hp_go_ne (by omega)).trans (S0 a a2)
      have X25 : ∀ a, 24 ≤ a → hp_go S 14 n h a = S a := fun a a1 => hp_go_ne (by omega)
      have X14 : ∀ j, j ≠ 11 → hp_go S 14 n h 14 j = σ 14 j := fun j hj => (hp_go_o hj).trans (by rw [S0 14 (by decide)])
      have Xk : ∀ j, j = 1 ∨ j = 2 ∨ j = 3 ∨ j = 4 ∨ j = 5 ∨ j = 8 → hp_go S 14 n h (14 + j) = σ (14 + j) := fun j hj => (hp_go_k hj).trans (S0 _ (by omega))
      have X11 : hp_go S 14 n h 14 11 = nI (h + 1) := hp_go_h
      have WM := w_X7_hour (ad := ad) F (l := l) (σ := hp_go S 14 n h) (n := n) (m := m) (h := h) (by rw [X0 81 (by decide) (by decide)]; exact wf.1) h6 (by rw [X0 77 (by decide) (by decide)]; exact hA.2.1) hA.2.2.1 (by rw [X0 81 (by decide) (by decide)]; exact wf.2.2.1) wf.2.2.2.1
      have mm : ¬ ax_up (hp_go S 14 n h) 77 0 0 77 7 = 0 := by rw [up_o (by decide), X0 77 (by decide) (by decide), ← e9]; exact h0
      have u81 : mk_keep (ax_up (hp_go S 14 n h) 77 0 0) m 81 = σ 81 := by rw [mkk_ne (by decide), up_ne (by decide), X0 81 (by decide) (by decide)]
      have T81 : ly_S (mk_keep (ax_up (hp_go S 14 n h) 77 0 0) m) n n 81 = σ 81 := by rw [ly_ne81, u81]
      have Tk : ∀ c j, c < n → j < 6 → ly_S (mk_keep (ax_up (hp_go S 14 n h) 77 0 0) m) n n (85 + j) c = σ 81 (8 + 6 * c + j) := fun c j hc hj => by rw [ly_k hj hc, u81]
      have T0 : ∀ a, a < 85 ∨ 92 < a → a ≠ 77 → ly_S (mk_keep (ax_up (hp_go S 14 n h) 77 0 0) m) n n a = mk_keep (ax_up (hp_go S 14 n h) 77 0 0) m a := fun a a1 a2 => ly_ne (by omega) a2
      have T7 : ∀ j, j ≠ 20 ∧ j ≠ 29 → ly_S (mk_keep (ax_up (hp_go S 14 n h) 77 0 0) m) n n 77 j = mk_keep (ax_up (hp_go S 14 n h) 77 0 0) m 77 j := fun j hj => ly_o hj
      have kd : kd_ok (ly_S (mk_keep (ax_up (hp_go S 14 n h) 77 0 0) m) n n 85) n := KD hN u81
      have h29 : ly_S (mk_keep (ax_up (hp_go S 14 n h) 77 0 0) m) n n 77 29 = 0 := ly_29
      generalize hT : ly_S (mk_keep (ax_up (hp_go S 14 n h) 77 0 0) m) n n = T at WM T81 Tk T0 T7 kd h29
      have ee : ∀ c j, c < n → j < 6 → S (14 + 2 + j) c = T (85 + j) c := fun c j hc hj => by
        rw [S0 _ (by omega), Tk c j hc hj]
        exact xp.2.2.2.1 c j hc hj
      have e0 : ∀ c, c < 7 → S 22 c = 0 := fun c hc => by
        rw [S0 22 (by decide)]
        exact xp.2.2.2.2 c hc
      have shr : S 14 11 = nI h := by rw [S0 14 (by decide)]; exact hr
      have core := hour_core (S := S) (T := T) h6 h12 shr h29 kd ee e0 (fun t ht => by
        rw [S0 15 (by decide), T81]
        exact xp.2.2.1 t ht) (fun c hc => by
        have q := (wf.2.2.2.2.2 c hc).2.2.2.2
        have t4 : T 89 c = σ 81 (8 + 6 * c + 4) := Tk c 4 hc (by decide)
        rw [t4]
        rcases q with q | q
        · exact Or.inl q.1
        · exact Or.inr q)
      obtain ⟨fE, tE⟩ := hour_eq h6 shr h29 kd ee e0
      have ans : mh_tm T n (nI h) = hp_tm S 14 n := by
        unfold mh_tm hp_tm
        rw [← fE]
        cases hp_f S 14 n with
        | none => rfl
        | some f => exact (ms_congr tE).symm
      refine ⟨_, _, _, WX.ans (by rw [if_neg h0, if_pos hh]) (by rw [if_neg h0, if_pos hh]), WM.ans (by rw [if_neg mm, if_pos hh, ans]) (by rw [if_neg mm, if_pos hh]), ?_⟩
      have G0 : ∀ a, a < 89 ∨ 92 < a → mh_go T n h a = T a := fun a ha => mh_go_ne ha
      generalize hG : mh_go T n h = G at core G0
      generalize hτ : ax_up (mw_S G n) 81 1 (nI (h + 1)) = τ
      have t1 : τ 81 1 = nI (h + 1) := by rw [← hτ, up_s]
      have tlo : ∀ j, j < 8 → j ≠ 1 → τ 81 j = σ 81 j := fun j h8 h1 => by rw [← hτ, up_o h1, mw_lo h8, G0 81 (by decide), T81]
      have tk : ∀ c k, k < 4 → τ 81 (8 + 6 * c + k) = σ 81 (8 + 6 * c + k) := fun c k hk => by rw [← hτ, up_o (by omega), mw_k hk, G0 81 (by decide), T81]
      have t4 : ∀ c, c < n → τ 81 (8 + 6 * c + 4) = G 89 c := fun c hc => by rw [← hτ, up_o (by omega), (mw_4 n hc).1]
      have t5 : ∀ c, c < n → τ 81 (8 + 6 * c + 5) = G 90 c := fun c hc => by rw [← hτ, up_o (by omega), (mw_4 n hc).2]
      have tne : ∀ a, a ≠ 81 → a < 85 ∨ 92 < a → a ≠ 77 → a ≠ 83 → τ a = hp_go S 14 n h a := fun a a1 a2 a3 a4 => by
        rw [← hτ, up_ne a1, mw_ne a1, G0 a (by omega), T0 a a2 a3, mkk_ne ⟨a4, a3⟩, up_ne a3]
      have t7 : ∀ j, j ≠ 0 → j ≠ 9 → j ≠ 20 → j ≠ 29 → τ 77 j = σ 77 j := fun j j0 j9 j2 j3 => by
        rw [← hτ, up_ne (by decide), mw_ne (by decide), G0 77 (by decide), T7 j ⟨j2, j3⟩, mkk_77 j9, up_o j0, X0 77 (by decide) (by decide)]
      have t83 : τ 83 = mk_keep (ax_up (hp_go S 14 n h) 77 0 0) m 83 := by rw [← hτ, up_ne (by decide), mw_ne (by decide), G0 83 (by decide), T0 83 (by decide) (by decide)]
      have t9 : τ 77 9 = mk_keep (ax_up (hp_go S 14 n h) 77 0 0) m 77 9 := by rw [← hτ, up_ne (by decide), mw_ne (by decide), G0 77 (by decide), T7 9 (by decide)]
      have q4 : ∀ c, c < n → T 89 c = σ 81 (8 + 6 * c + 4) := fun c hc => Tk c 4 hc (by decide)
      have q5 : ∀ c, c < n → T 90 c = σ 81 (8 + 6 * c + 5) := fun c hc => Tk c 5 hc (by decide)
      have wf' : WF (τ 81) n (h + 1) := by
        obtain ⟨w1, w2, w3, w4, w5, w6⟩ := id wf
        refine ⟨by rw [tlo 0 (by decide) (by decide)]; exact w1, w2, t1, by omega, fun t ht => by rw [tlo _ (by omega) (by omega)]; exact w5 t ht, fun c hc => ?_⟩
        obtain ⟨y1, y2, y3, y4, y5⟩ := w6 c hc
        rw [tk c 0 (by decide), tk c 1 (by decide), tk c 2 (by decide), tk c 3 (by decide), t4 c hc, t5 c hc]
        refine ⟨y1, y2, y3, y4, ?_⟩
        rcases (core c hc).2.2 with ⟨g1, g2⟩ | ⟨g1, g2, g3⟩
        · exact Or.inr ⟨h, by omega, g1⟩
        · rw [g2, g3, q4 c hc, q5 c hc]
          rcases y5 with z | ⟨w, z1, z2⟩
          · exact Or.inl z
          · exact Or.inr ⟨w, by omega, z2⟩
      have ar : AR (σ 81) (τ 81) (-1) 0 n := by
        refine ⟨h, wf, Or.inr ⟨rfl, h12, t1, fun j j8 j1 => tlo j j8 j1, fun c hc => ⟨fun k hk => tk c k hk, ?_⟩⟩⟩
        rw [t4 c hc, t5 c hc]
        rcases (core c hc).2.2 with ⟨g1, g2⟩ | ⟨g1, g2, g3⟩
        · rw [q4 c hc] at g2
          refine Or.inl ⟨g1, g2, ?_⟩
          rcases (wf.2.2.2.2.2 c hc).2.2.2.2 with z | ⟨w, z1, z2⟩
          · exact z.2
          · rw [g2] at z2
            exact absurd z2.symm (nI_none (by omega))
        · exact Or.inr ⟨g1, g2.trans (q4 c hc), g3.trans (q5 c hc)⟩
      obtain ⟨m', rA'⟩ := hA.keep (τ := τ) (υ := ax_up (hp_go S 14 n h) 77 0 0) (w := -1) (b := 0) h6 (by rw [tne 25 (by decide) (by decide) (by decide) (by decide), X25 25 (by decide), hS]) (by rw [tne 26 (by decide) (by decide) (by decide) (by decide), X25 26 (by decide), hS]) (by rw [tne 27 (by decide) (by decide) (by decide) (by decide), X25 27 (by decide), hS]) t9 t83 (by rw [up_ne (by decide), X0 81 (by decide) (by decide)]) (by rw [up_ne (by decide), X0 83 (by decide) (by decide)]) ar
      refine R.ac (n := n) (h := h + 1) (m := m') ⟨wf', ⟨?_, ?_, fun t ht => ?_, fun c k hc hk => ?_, fun c hc => ?_⟩, ?_, ?_⟩ rA' (fun a a1 a2 a3 a4 a5 a6 => ?_) t7
      · rw [tne 14 (by decide) (by decide) (by decide) (by decide), X14 10 (by decide), tlo 0 (by decide) (by decide)]
        exact xp.1
      · rw [tne 14 (by decide) (by decide) (by decide) (by decide), X11, t1]
      · rw [tne (14 + 1) (by decide) (by decide) (by decide) (by decide), Xk 1 (by decide), tlo _ (by omega) (by omega)]
        exact xp.2.2.1 t ht
      · rw [tne (14 + 2 + k) (by omega) (by omega) (by omega) (by omega)]
        rcases (show k < 4 ∨ k = 4 ∨ k = 5 by omega) with k4 | rfl | rfl
        · rw [tk c k k4, Nat.add_assoc, Xk (2 + k) (by omega), ← Nat.add_assoc]
          exact xp.2.2.2.1 c k hc hk
        · rw [t4 c hc]
          exact (core c hc).1
        · rw [t5 c hc]
          exact (core c hc).2.1
      · rw [tne (14 + 8) (by decide) (by decide) (by decide) (by decide), Xk 8 (by decide)]
        exact xp.2.2.2.2 c hc
      · rw [tne 14 (by decide) (by decide) (by decide) (by decide), X14 9 (by decide), t7 7 (by decide) (by decide) (by decide) (by decide)]
        exact e9
      · rw [t7 7 (by decide) (by decide) (by decide) (by decide)]
        exact b9
      · rw [tne a (by omega) a6 (by omega) (by omega), X0 a a1 ⟨a2, a3, a4⟩]
    · exact ⟨_, _, _, WX.ans (by rw [if_neg h0, if_neg hh]) (by rw [if_neg h0, if_neg hh]), WM0.ans (by rw [if_neg m0, if_neg hh]) (by rw [if_neg m0, if_neg hh]), R.sm sm.u0⟩
