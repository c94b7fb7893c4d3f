/-! calls on both sides, fifth part: what is foretold -/
abbrev xB (σ : ax_Z) : ax_Z := hp_bc σ 29 14
abbrev xK (σ : ax_Z) (n : Nat) : dC := hp_K (xB σ) 29 n
theorem xB_k {σ : ax_Z} {j i : Nat} (h1 : 1 ≤ j) (h8 : j ≤ 8) (hi : i < 6 ∨ (i < 7 ∧ j ≠ 1)) : xB σ (29 + j) i = σ (14 + j) i := bc_k (by decide) h1 h8 hi
theorem ly_k {υ : ax_Z} {n j c : Nat} (hj : j < 6) (hc : c < n) : ly_S υ n n (85 + j) c = υ 81 (8 + 6 * c + j) := by
  rw [ly_in (by omega) (by omega) hc, Nat.add_sub_cancel_left]
section FT
variable {σ υ : ax_Z} {n h : Nat}
theorem KX (N : rN σ n h) (e : υ 81 = σ 81) {j c : Nat} (hj : j < 6) (hc : c < n) : xB σ (29 + (2 + j)) c = ly_S υ n n (85 + j) c := by
  have h6 := N.1.2.1
  rw [xB_k (by omega) (by omega) (Or.inr (by omega)), ly_k hj hc, e, ← Nat.add_assoc]
  exact N.2.1.2.2.2.1 c j hc hj
theorem KE (N : rN σ n h) (e : υ 81 = σ 81) : dC.eq (xK σ n) (mK (ly_S υ n n) n) := by
  have h6 := N.1.2.1
  refine ⟨rfl, fun c hc => ?_, fun t ht => ?_⟩
  · have hc' : c < n := hc
    refine ⟨KX N e (j := 0) (by decide) hc', KX N e (j := 1) (by decide) hc', KX N e (j := 3) (by decide) hc', ?_⟩
    show xB σ (29 + 8) c = mt (ly_S υ n n) c
    rw [xB_k (by decide) (by decide) (Or.inr (by omega)), N.2.1.2.2.2.2 c (by omega)]
    unfold mt
    rw [if_pos ly_29]
  · show xB σ (29 + 1) t = ly_S υ n n 81 (2 + t)
    rw [xB_k (by decide) (by decide) (Or.inl ht), ly_ne81, e]
    exact N.2.1.2.2.1 t ht
theorem KO (N : rN σ n h) (e : υ 81 = σ 81) : dK_ok (mK (ly_S υ n n) n) := by
  have h6 := N.1.2.1
  refine ⟨by show n ≤ 7; omega, fun c hc => ?_, fun t ht => ?_⟩
  · have hc' : c < n := hc
    obtain ⟨a, a1, a2⟩ := (N.1.2.2.2.2.2 c hc').2.1
    refine ⟨a, a1, ?_⟩
    show ly_S υ n n (85 + 1) c = nI a
    rw [ly_k (by decide) hc', e]
    exact a2
  · obtain ⟨T, T1, T2⟩ := N.1.2.2.2.2.1 t ht
    refine ⟨T, T1, ?_⟩
    show ly_S υ n n 81 (2 + t) = nI T
    rw [ly_ne81, e]
    exact T2
theorem dK_ok.c {K K' : dC} (h : dK_ok K') (e : dC.eq K K') : dK_ok K := by
  obtain ⟨h1, h2, h3⟩ := h
  refine ⟨by rw [e.1]; exact h1, fun c hc => ?_, fun t ht => ?_⟩
  · rw [(e.2.1 c hc).2.1]
    exact h2 c (by rw [← e.1]; exact hc)
  · rw [e.2.2 t ht]
    exact h3 t ht
theorem KD (N : rN σ n h) (e : υ 81 = σ 81) : kd_ok (ly_S υ n n 85) n := fun c hc => by
  obtain ⟨k, k1, k5, ke⟩ := (N.1.2.2.2.2.2 c hc).1
  refine ⟨k, k1, k5, ?_⟩
  have := ly_k (υ := υ) (j := 0) (by decide) hc
  rw [e] at this
  exact this.trans ke
theorem KH (N : rN σ n h) (e : υ 81 = σ 81) {c : Nat} (hc : c < n) : xB σ 33 c = ly_S υ n n 87 c := KX N e (j := 2) (by decide) hc
theorem KH20 (N : rN σ n h) (e : υ 81 = σ 81) {c : Nat} (hc : c < n) : ly_S υ n n 87 c = nI (ly_S υ n n 87 c).toNatClampNeg ∧ (ly_S υ n n 87 c).toNatClampNeg ≤ 20 := by
  obtain ⟨H, H1, H2⟩ := (N.1.2.2.2.2.2 c hc).2.2.1
  have := ly_k (υ := υ) (j := 2) (by decide) hc
  rw [e] at this
  have q : ly_S υ n n 87 c = nI H := this.trans H2
  rw [q, nI_clamp (by omega)]
  exact ⟨rfl, H1⟩
theorem sm.ly : sm υ (ly_S υ n n) := ⟨fun a ha => ly_ne (by omega) (by omega), fun j j0 j1 j2 j3 => ly_o ⟨j1, j2⟩⟩
theorem sm.md {m : Nat} : sm υ (md_go υ m) := ⟨fun a ha => md_go_ne (by omega), fun j _ _ _ _ => by rw [md_go_ne (by decide)]⟩
theorem sm.mb {τ : ax_Z} (f : mi_fr υ τ) : sm υ τ := ⟨fun a ha => f.1 a (by omega) (by omega), fun j j0 j1 j2 j3 => f.2 j j3⟩
theorem fr_bc : ax_fr 29 39 σ (xB σ) := fun a ha => hp_bc_ne (by omega)
theorem fr_dy {τ : ax_Z} {m : Nat} (f : ax_fr 29 39 σ τ) : ax_fr 29 39 σ (hp_dy τ 29 m) := fun a ha => (hp_dy_ne (by omega)).trans (f a ha)
theorem dy_x {τ : ax_Z} {c : Nat} (h7 : n ≤ 7) (hc : c < 7) : (if hp_dy τ 29 n 35 c = -1000000 then -1000000 else hp_dy τ 29 n 33 c * (hp_dy τ 29 n 35 c - hp_dy τ 29 n 32 c) + hp_dy τ 29 n 36 c) = dd_x (hp_K τ 29 n) (τ 33) c := by
  have e1 : hp_dy τ 29 n 35 c = DW (hp_K τ 29 n) c := hp_dy_w h7 hc
  have e2 : hp_dy τ 29 n 36 c = DP (hp_K τ 29 n) c := hp_dy_p h7 hc
  have e3 : hp_dy τ 29 n 33 = τ 33 := hp_dy_k (p := 29) (j := 4) (by decide)
  have e4 : hp_dy τ 29 n 32 = τ 32 := hp_dy_k (p := 29) (j := 3) (by decide)
  rw [e1, e2, e3, e4]
  rfl
end FT
theorem op_day {σ : ax_Z} (R : RR σ) (cart k : Int32) : OP iX6_day iX7_day 5 5 [.int cart, .int k] σ := by
  intro Y ad l F
  obtain ⟨⟨n, h, m, hN, -⟩, -⟩ := id R
  obtain ⟨wf, xp, e9, b9⟩ := id hN
  have h6 := wf.2.1
  have b9' : σ 14 9 = 0 ∨ σ 14 9 = 1 := by rw [e9]; exact b9
  have WX := w_X6_day (ad := ad) F (l := l) (σ := σ) (xp.1.trans wf.1) h6 b9' (cart := cart) (k := k)
  by_cases C : (0 ≤ cart ∧ cart ≤ nI n - 1) ∧ (0 ≤ k ∧ k ≤ 2)
  · have f1 : ax_fr 29 39 σ (hp_dy (xB σ) 29 n) := fr_dy fr_bc
    have e81 : ax_up (hp_dy (xB σ) 29 n) 77 0 0 81 = σ 81 := by rw [up_ne (by decide)]; exact f1 81 (by decide)
    have s1 : sm σ (ax_up (hp_dy (xB σ) 29 n) 77 0 0) := (sm.x f1).tr sm.u0
    obtain ⟨c, hc, rfl⟩ := ax_ixN (by omega) C.1
    have cl : (nI c).toNatClampNeg = c := nI_clamp (by omega)
    have KEq := KE hN e81
    have d7 : n ≤ 7 := by omega
    refine ⟨_, _, _, WX.ans rfl (by rw [if_pos C]), (w_X7_day F (n := n) (by rw [f1 81 (by decide)]; exact wf.1) h6).ans ?_ (by rw [if_pos C]), R.sm ((s1.tr (sm.ly (n := n))).tr sm.md)⟩
    rw [if_pos C, if_pos C, cl]
    by_cases k0 : k = 0
    · rw [if_pos k0, if_pos k0, md_w d7 (KD hN e81) hc]
      exact (DW_c KEq hc).symm.trans (hp_dy_w (σ := xB σ) (p := 29) d7 (by omega)).symm
    · rw [if_neg k0, if_neg k0]
      by_cases k1 : k = 1
      · rw [if_pos k1, if_pos k1, mc_dd d7 (KD hN e81) hc (KO hN e81)]
        refine Eq.trans ?_ (dy_x (τ := xB σ) d7 (by omega)).symm
        exact (dd_x_c KEq hc (KH hN e81 hc)).symm
      · rw [if_neg k1, if_neg k1, md_p d7 (KD hN e81) hc]
        exact (DP_c KEq hc).symm.trans (hp_dy_p (σ := xB σ) (p := 29) d7 (by omega)).symm
  · exact ⟨_, _, _, WX.ans (by rw [if_neg C]) (by rw [if_neg C]), (w_X7_day F wf.1 h6).ans (by rw [if_neg C]) (by rw [if_neg C]), R.sm sm.u0⟩
theorem op_best {σ : ax_Z} (R : RR σ) (cart k : Int32) : OP iX6_best iX7_best 6 6 [.int cart, .int k] σ := by
  intro Y ad l F
  obtain ⟨⟨n, h, m, hN, -⟩, -⟩ := id R
  obtain ⟨wf, xp, e9, b9⟩ := id hN
  have h6 := wf.2.1
  have b9' : σ 14 9 = 0 ∨ σ 14 9 = 1 := by rw [e9]; exact b9
  have WX := w_X6_best (ad := ad) F (l := l) (σ := σ) (xp.1.trans wf.1) h6 b9' (cart := cart) (k := k)
  by_cases C : (0 ≤ cart ∧ cart ≤ nI n - 1) ∧ (0 ≤ k ∧ k ≤ 1)
  · obtain ⟨c, hc, rfl⟩ := ax_ixN (by omega) C.1
    have cl : (nI c).toNatClampNeg = c := nI_clamp (by omega)
    have f1 : ax_fr 29 39 σ (hp_dy (tb_S (xB σ) n c) 29 n) := fr_dy (fr_bc.tr tb_S_fr)
    have e81 : ax_up (hp_dy (tb_S (xB σ) n c) 29 n) 77 0 0 81 = σ 81 := by rw [up_ne (by decide)]; exact f1 81 (by decide)
    have s1 : sm σ (ax_up (hp_dy (tb_S (xB σ) n c) 29 n) 77 0 0) := (sm.x f1).tr sm.u0
    have KEq := KE hN e81
    have d7 : n ≤ 7 := by omega
    have H := KH20 hN e81 hc
    have hB : dd_B (xB σ 33) (xK σ n) c = dd_B (ly_S (ax_up (hp_dy (tb_S (xB σ) n c) 29 n) 77 0 0) n n 87) (mK (ly_S (ax_up (hp_dy (tb_S (xB σ) n c) 29 n) 77 0 0) n n) n) c := dd_B_c KEq hc (KH hN e81 hc)
    refine ⟨_, _, _, WX.ans rfl (by rw [if_pos C, cl]), (w_X7_best F (n := n) (by rw [f1 81 (by decide)]; exact wf.1) h6).ans ?_ (by rw [if_pos C, cl]), R.sm ((s1.tr (sm.ly (n := n))).tr ?_)⟩
    · rw [if_pos C, if_pos C, cl]
      by_cases k0 : k = 0
      · rw [if_pos k0, if_pos k0, mb_B d7 ly_29 (KD hN e81) hc (KO hN e81) H.1 H.2, ← hB]
        have q1 : hp_dy (tb_S (xB σ) n c) 29 n 34 = tb_S (xB σ) n c 34 := hp_dy_k (p := 29) (j := 5) (by decide)
        rw [q1, tb_S, up_s]
      · rw [if_neg k0, if_neg k0, mb_C d7 ly_29 (KD hN e81) hc (KO hN e81) H.1 H.2, ← hB]
        refine Eq.trans ?_ (dy_x (τ := tb_S (xB σ) n c) d7 (by omega)).symm
        rw [tb_S_K, tb_S_h]
        exact (dd_x_c (tb_K_c KEq) hc (KH hN e81 hc)).symm
    · have fr := mb_frame (σ := ly_S (ax_up (hp_dy (tb_S (xB σ) n c) 29 n) 77 0 0) n n) (c := c) (n := n) 12
      refine ⟨fun a ha => ?_, fun j j0 j1 j2 j3 => ?_⟩
      · rw [mb_S, up_ne (by omega), fr.1 a (by omega) (by omega)]
      · rw [mb_S, up_ne (by decide), fr.2.1 j j3]
  · exact ⟨_, _, _, WX.ans (by rw [if_neg C]) (by rw [if_neg C]), (w_X7_best F wf.1 h6).ans (by rw [if_neg C]) (by rw [if_neg C]), R.sm sm.u0⟩
theorem op_thought {σ : ax_Z} (R : RR σ) (cart hr : Int32) : OP iX6_thought iX7_thought 5 5 [.int cart, .int hr] σ := by
  intro Y ad l F
  obtain ⟨⟨n, h, m, hN, -⟩, -⟩ := id R
  obtain ⟨wf, xp, e9, b9⟩ := id hN
  have h6 := wf.2.1
  have b9' : σ 14 9 = 0 ∨ σ 14 9 = 1 := by rw [e9]; exact b9
  have WX := w_X6_thought (ad := ad) F (l := l) (σ := σ) (xp.1.trans wf.1) h6 b9' (cart := cart) (hr := hr)
  by_cases C : (0 ≤ cart ∧ cart ≤ nI n - 1) ∧ (0 ≤ hr ∧ hr ≤ 11)
  · obtain ⟨c, hc, rfl⟩ := ax_ixN (by omega) C.1
    have cl : (nI c).toNatClampNeg = c := nI_clamp (by omega)
    have f1 : ax_fr 29 39 σ (tb_it (xB σ) n c 12) := fr_bc.tr tb_it_fr
    have e81 : ax_up (tb_it (xB σ) n c 12) 77 0 0 81 = σ 81 := by rw [up_ne (by decide)]; exact f1 81 (by decide)
    have s1 : sm σ (ax_up (tb_it (xB σ) n c 12) 77 0 0) := (sm.x f1).tr sm.u0
    have KEq := KE hN e81
    have d7 : n ≤ 7 := by omega
    refine ⟨_, _, _, WX.ans rfl (by rw [if_pos C, cl]), (w_X7_thought F (n := n) (by rw [f1 81 (by decide)]; exact wf.1) h6).ans ?_ (by rw [if_pos C, cl]), R.sm ((s1.tr (sm.ly (n := n))).tr ?_)⟩
    · rw [if_pos C, if_pos C, cl]
      congr 1
      refine ms_congr (fun k hk => ?_)
      rw [mt_W d7 ly_29 (KD hN e81) hc, ← DW_c (tb_K_c KEq) hc]
      rfl
    · have fr := mt_frame (σ := ly_S (ax_up (tb_it (xB σ) n c 12) 77 0 0) n n) (c := c) (n := n) 12
      exact ⟨fun a ha => fr.1 a (by omega) (by omega), fun j j0 j1 j2 j3 => fr.2.1 j j3⟩
  · exact ⟨_, _, _, WX.ans (by rw [if_neg C]) (by rw [if_neg C]), (w_X7_thought F wf.1 h6).ans (by rw [if_neg C]) (by rw [if_neg C]), R.sm sm.u0⟩
theorem op_goat {σ : ax_Z} (R : RR σ) (cart hr : Int32) : OP iX6_goat iX7_goat 6 5 [.int cart, .int hr] σ := by
  intro Y ad l F
  obtain ⟨⟨n, h, m, hN, -⟩, -⟩ := id R
  obtain ⟨wf, xp, e9, b9⟩ := id hN
  have h6 := wf.2.1
  have b9' : σ 14 9 = 0 ∨ σ 14 9 = 1 := by rw [e9]; exact b9
  have WX := w_X6_goat (ad := ad) F (l := l) (σ := σ) (xp.1.trans wf.1) h6 b9' (cart := cart) (hr := hr)
  by_cases C : (0 ≤ cart ∧ cart ≤ nI n - 1) ∧ (0 ≤ hr ∧ hr ≤ 11)
  · obtain ⟨c, hc, rfl⟩ := ax_ixN (by omega) C.1
    obtain ⟨a, ha, rfl⟩ := ax_ix (m := 11) (by decide) C.2
    have cl : (nI c).toNatClampNeg = c := nI_clamp (by omega)
    have f1 : ax_fr 29 39 σ (hp_dy (gt_S (hp_dy (xB σ) 29 n) n (nI a)) 29 (n + 1)) := fr_dy (fun b hb => by
      unfold gt_S
      rw [up_ne (by omega), up_ne (by omega), up_ne (by omega), up_ne (by omega), up_ne (by omega)]
      exact fr_dy fr_bc b hb)
    have e81 : ax_up (hp_dy (gt_S (hp_dy (xB σ) 29 n) n (nI a)) 29 (n + 1)) 77 0 0 81 = σ 81 := by rw [up_ne (by decide)]; exact f1 81 (by decide)
    have s1 : sm σ (ax_up (hp_dy (gt_S (hp_dy (xB σ) 29 n) n (nI a)) 29 (n + 1)) 77 0 0) := (sm.x f1).tr sm.u0
    have KEq := KE hN e81
    have d7 : n ≤ 7 := by omega
    have WM := w_X7_goat (ad := ad) F (l := l) (σ := hp_dy (gt_S (hp_dy (xB σ) 29 n) n (nI a)) 29 (n + 1)) (n := n) (by rw [f1 81 (by decide)]; exact wf.1) h6 (cart := nI c) (hr := nI a)
    generalize hυ : ax_up (hp_dy (gt_S (hp_dy (xB σ) 29 n) n (nI a)) 29 (n + 1)) 77 0 0 = υ at WM e81 s1 KEq
    refine ⟨_, _, md_go (mg_S (ly_S υ n n) n (nI a)) (n + 1), WX.ans rfl (by rw [if_pos C]), WM.ans ?_ (by rw [if_pos C]; rfl), R.sm (((s1.tr (sm.ly (n := n))).tr ?_).tr sm.md)⟩
    · rw [if_pos C, if_pos C, cl]
      show mc (md_go (mg_S (ly_S υ n n) n (nI a)) (n + 1)) c + md_go (mg_S (ly_S υ n n) n (nI a)) (n + 1) 90 n - mc (md_go (ly_S υ n n) n) c = _
      have ek := mg_K (σ := ly_S υ n n) (n := n) (hr := nI a) ly_29
      have okg : dK_ok (go_K (mK (ly_S υ n n) n) (nI a)) := go_K_ok (KO hN e81) h6 ha
      have geq : dC.eq (go_K (xK σ n) (nI a)) (go_K (mK (ly_S υ n n) n) (nI a)) := go_K_c KEq (by
        show xB σ (29 + 8) n = mt (ly_S υ n n) n
        rw [xB_k (by decide) (by decide) (Or.inr (by omega)), hN.2.1.2.2.2.2 n (by omega)]
        unfold mt
        rw [if_pos ly_29])
      have lt1 : c < (go_K (xK σ n) (nI a)).1 := by show c < n + 1; omega
      have lt2 : n < (go_K (xK σ n) (nI a)).1 := by show n < n + 1; omega
      rw [mc_dd (by omega) (mg_kd (KD hN e81)) (by omega) (by rw [ek]; exact okg), md_p (by omega) (mg_kd (KD hN e81)) (by omega), mc_dd d7 (KD hN e81) hc (KO hN e81), ek]
      rw [← dd_x_c geq (ha := xB σ 33) lt1 (by rw [mg_87, pk_un (by omega)]; exact KH hN e81 hc), ← DP_c geq lt2, ← dd_x_c KEq hc (KH hN e81 hc)]
    · refine ⟨fun b hb => ?_, fun j j0 j1 j2 j3 => ?_⟩
      · unfold mg_S
        rw [up_ne (by omega), up_ne (by omega), up_ne (by omega), up_ne (by omega), up_ne (by omega), md_go_ne (by omega)]
      · unfold mg_S
        rw [up_ne (by decide), up_ne (by decide), up_ne (by decide), up_ne (by decide), up_o j1, md_go_ne (by decide)]
  · exact ⟨_, _, _, WX.ans (by rw [if_neg C]) (by rw [if_neg C]), (w_X7_goat F wf.1 h6).ans (by rw [if_neg C]) (by rw [if_neg C]), R.sm sm.u0⟩
