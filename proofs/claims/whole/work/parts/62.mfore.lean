/-! the reference's tellings are the tellings of numbers -/
theorem mK_up {σ τ : ax_Z} {n c : Nat} {v : Int32} (h29 : σ 77 29 = 0) (t29 : τ 77 29 = 0) (e85 : τ 85 = σ 85) (e86 : τ 86 = σ 86) (e81 : τ 81 = σ 81) (e88 : upd (τ 88) c v = upd (σ 88) c v) : mK (ax_up τ 88 c v) n = tb_K (mK σ n) c v := by
  unfold mK tb_K mt
  rw [up_ne (show (77 : Nat) ≠ 88 by decide), up_ne (show (85 : Nat) ≠ 88 by decide), up_ne (show (86 : Nat) ≠ 88 by decide), up_ne (show (81 : Nat) ≠ 88 by decide), ax_row, e85, e86, e81, e88, if_pos t29, if_pos h29]
/-- what the days of one who tries leave as it was -/
def mb_fr (σ τ : ax_Z) (c : Nat) : Prop := (∀ a, a ≠ 77 → (a < 88 ∨ 92 < a) → τ a = σ a) ∧ (∀ j, j ≠ 30 → τ 77 j = σ 77 j) ∧ ∀ v, upd (τ 88) c v = upd (σ 88) c v
theorem mb_fr.rf {σ : ax_Z} {c : Nat} : mb_fr σ σ c := ⟨fun _ _ _ => rfl, fun _ _ => rfl, fun _ => rfl⟩
theorem mb_fr.day {σ τ : ax_Z} {c n : Nat} {v : Int32} (h : mb_fr σ τ c) : mb_fr σ (md_go (ax_up τ 88 c v) n) c := by
  obtain ⟨h1, h2, h3⟩ := h
  refine ⟨fun a a7 ha => ?_, fun j hj => ?_, fun w => ?_⟩
  · rw [md_go_ne (by omega), up_ne (by omega)]
    exact h1 a a7 ha
  · rw [md_go_ne (by decide), up_ne (by decide)]
    exact h2 j hj
  · rw [md_go_ne (by decide), ax_row, upd_upd]
    exact h3 w
theorem mb_fr.cost {σ τ : ax_Z} {c : Nat} {v : Int32} (h : mb_fr σ τ c) : mb_fr σ (ax_up τ 77 30 v) c := by
  obtain ⟨h1, h2, h3⟩ := h
  refine ⟨fun a a7 ha => ?_, fun j hj => ?_, fun w => ?_⟩
  · rw [up_ne a7]
    exact h1 a a7 ha
  · rw [up_o hj]
    exact h2 j hj
  · rw [up_ne (by decide)]
    exact h3 w
theorem mb_fr.K {σ τ : ax_Z} {c n : Nat} {v : Int32} (h : mb_fr σ τ c) (h29 : σ 77 29 = 0) : mK (ax_up τ 88 c v) n = tb_K (mK σ n) c v :=
  mK_up h29 ((h.2.1 29 (by decide)).trans h29) (h.1 85 (by decide) (by decide)) (h.1 86 (by decide) (by decide)) (h.1 81 (by decide) (by decide)) (h.2.2 v)
theorem mb_frame {σ : ax_Z} {c n : Nat} (k : Nat) : mb_fr σ (mb σ c n k).1 c := by
  induction k with
  | zero => exact mb_fr.rf
  | succ k ih =>
    by_cases h : nI k = 0 ∨ mc (mb_d σ c n k) c < mb_d σ c n k 77 30
    · rw [mb_t h]
      exact ih.day.cost
    · rw [mb_f h]
      exact ih.day.cost
/-- a cost of the reference's day -/
theorem mc_dd {τ : ax_Z} {n c : Nat} (h7 : n ≤ 7) (hk : kd_ok (τ 85) n) (hc : c < n) (hK : dK_ok (mK τ n)) : mc (md_go τ n) c = dd_x (mK τ n) (τ 87) c := by
  rw [dd_x_e hK hc]
  unfold mc
  rw [md_w h7 hk hc, md_p h7 hk hc, md_go_ne (by decide), md_go_ne (by decide)]
  rfl
theorem mb_cost {σ : ax_Z} {n c k : Nat} (h7 : n ≤ 7) (h29 : σ 77 29 = 0) (hk : kd_ok (σ 85) n) (hc : c < n) (hK : dK_ok (mK σ n)) : mc (mb_d σ c n k) c = dd_x (tb_K (mK σ n) c (nI k)) (σ 87) c := by
  have fr := mb_frame (σ := σ) (c := c) (n := n) k
  have e := fr.K (n := n) (v := nI k) h29
  unfold mb_d
  rw [mc_dd h7 (by rw [up_ne (by decide), fr.1 85 (by decide) (by decide)]; exact hk) hc (by rw [e]; exact tb_K_ok hK), e, up_ne (by decide), fr.1 87 (by decide) (by decide)]
theorem mb_bk {σ : ax_Z} {n c : Nat} {cost : Nat → Int32} (hcost : ∀ k, mc (mb_d σ c n k) c = cost k) (h0 : cost 0 < 1000000) : ∀ k, k < 12 → (mb σ c n (k + 1)).2 = (bk_f cost (k + 1)).1 ∧ (mb σ c n (k + 1)).1 77 30 = (bk_f cost (k + 1)).2 := by
  intro k
  induction k with
  | zero =>
    intro _
    rw [mb_t (k := 0) (Or.inl nI_0), bk_1 h0]
    exact ⟨rfl, by dsimp only; rw [up_s, hcost]⟩
  | succ k ih =>
    intro hk12
    obtain ⟨i1, i2⟩ := ih (by omega)
    have e30 : mb_d σ c n (k + 1) 77 30 = (bk_f cost (k + 1)).2 := by
      rw [← i2]
      unfold mb_d
      rw [md_go_ne (by decide), up_ne (by decide)]
    have ec := hcost (k + 1)
    have nz : ¬ nI (k + 1) = 0 := nI_ne0 (by omega) (by omega)
    rw [bk_f]
    by_cases h : cost (k + 1) < (bk_f cost (k + 1)).2
    · rw [if_pos h, mb_t (k := k + 1) (Or.inr (by rw [ec, e30]; exact h))]
      exact ⟨rfl, by dsimp only; rw [up_s, ec]⟩
    · rw [if_neg h, mb_f (k := k + 1) (fun z => by
        rcases z with z | z
        · exact nz z
        · rw [ec, e30] at z
          exact h z)]
      exact ⟨i1, by dsimp only; rw [up_s, e30]⟩
theorem mb_B {σ : ax_Z} {n c H : Nat} (h7 : n ≤ 7) (h29 : σ 77 29 = 0) (hk : kd_ok (σ 85) n) (hc : c < n) (hK : dK_ok (mK σ n)) (hh : σ 87 c = nI H) (h20 : H ≤ 20) : (mb σ c n 12).2 = dd_B (σ 87) (mK σ n) c :=
  (mb_bk (cost := fun m => dd_x (tb_K (mK σ n) c (nI m)) (σ 87) c) (fun k => mb_cost h7 h29 hk hc hK) (dd_x_lt (tb_K_ok hK) hc hh h20) 11 (by decide)).1
theorem mb_C {σ : ax_Z} {n c H : Nat} (h7 : n ≤ 7) (h29 : σ 77 29 = 0) (hk : kd_ok (σ 85) n) (hc : c < n) (hK : dK_ok (mK σ n)) (hh : σ 87 c = nI H) (h20 : H ≤ 20) : mb_S σ c n 77 30 = dd_x (tb_K (mK σ n) c (nI (dd_B (σ 87) (mK σ n) c))) (σ 87) c := by
  have h0 : dd_x (tb_K (mK σ n) c (nI 0)) (σ 87) c < 1000000 := dd_x_lt (tb_K_ok hK) hc hh h20
  have g := (mb_bk (cost := fun m => dd_x (tb_K (mK σ n) c (nI m)) (σ 87) c) (fun k => mb_cost h7 h29 hk hc hK) h0 11 (by decide)).2
  rw [mb_S, up_ne (by decide)]
  exact g.trans (bk_v (cost := fun m => dd_x (tb_K (mK σ n) c (nI m)) (σ 87) c) h0 11)
/-- the days of a thought -/
theorem mt_frame {σ : ax_Z} {c n : Nat} (k : Nat) : mb_fr σ (mt_S σ c n k) c := by
  induction k with
  | zero => exact mb_fr.rf
  | succ k ih => exact ih.day
theorem mt_W {σ : ax_Z} {n c k : Nat} (h7 : n ≤ 7) (h29 : σ 77 29 = 0) (hk : kd_ok (σ 85) n) (hc : c < n) : mt_S σ c n (k + 1) 89 c = DW (tb_K (mK σ n) c (nI k)) c := by
  have fr := mt_frame (σ := σ) (c := c) (n := n) k
  rw [mt_S, md_w h7 (by rw [up_ne (by decide), fr.1 85 (by decide) (by decide)]; exact hk) hc, fr.K h29]
/-- one round -/
theorem mbS_88 {σ : ax_Z} {c n : Nat} : mb_S σ c n 88 = σ 88 := by
  have fr := mb_frame (σ := σ) (c := c) (n := n) 12
  rw [mb_S, ax_row, fr.2.2 (σ 88 c)]
  funext j
  by_cases e : j = c
  · subst e
    rw [pk_us]
  · rw [pk_un e]
def mi_fr (σ τ : ax_Z) : Prop := (∀ a, a ≠ 77 → (a < 88 ∨ 92 < a) → τ a = σ a) ∧ ∀ j, j ≠ 30 → τ 77 j = σ 77 j
theorem mi_fr.rf {σ : ax_Z} : mi_fr σ σ := ⟨fun _ _ _ => rfl, fun _ _ => rfl⟩
theorem mi_fr.st {σ τ : ax_Z} {c n : Nat} {v : Int32} (h : mi_fr σ τ) : mi_fr σ (ax_up (mb_S τ c n) 88 c v) := by
  have fr := mb_frame (σ := τ) (c := c) (n := n) 12
  refine ⟨fun a a7 ha => ?_, fun j hj => ?_⟩
  · rw [up_ne (by omega), mb_S, up_ne (by omega), fr.1 a a7 ha]
    exact h.1 a a7 ha
  · rw [up_ne (by decide), mb_S, up_ne (by decide), fr.2.1 j hj]
    exact h.2 j hj
theorem mi_frame {σ : ax_Z} {n : Nat} (c : Nat) : mi_fr σ (mr_i σ n c).1 := by
  induction c with
  | zero => exact mi_fr.rf
  | succ c ih =>
    rw [← mr_i1]
    exact ih.st
theorem mK_88 {σ τ : ax_Z} {n c : Nat} {v : Int32} (h : mi_fr σ τ) (h29 : σ 77 29 = 0) : mK (ax_up (mb_S τ c n) 88 c v) n = tb_K (mK τ n) c v := by
  have t29 : τ 77 29 = 0 := (h.2 29 (by decide)).trans h29
  have fr := mb_frame (σ := τ) (c := c) (n := n) 12
  exact mK_up t29 (by rw [mb_S, up_ne (by decide), fr.2.1 29 (by decide)]; exact t29) (by rw [mb_S, up_ne (by decide), fr.1 85 (by decide) (by decide)]) (by rw [mb_S, up_ne (by decide), fr.1 86 (by decide) (by decide)]) (by rw [mb_S, up_ne (by decide), fr.1 81 (by decide) (by decide)]) (by rw [mbS_88])
theorem bn_dec {x y : Int32} : decide (x = y) = !decide (¬ x = y) := by rw [decide_not, Bool.not_not]
theorem mi_K {σ : ax_Z} {n : Nat} {Hf : Nat → Nat} (h7 : n ≤ 7) (h29 : σ 77 29 = 0) (hk : kd_ok (σ 85) n) (hK : dK_ok (mK σ n)) (hh : ∀ c, c < n → σ 87 c = nI (Hf c) ∧ Hf c ≤ 20) : ∀ c, c ≤ n → mK (mr_i σ n c).1 n = rd_K (σ 87) (mK σ n) c ∧ (mr_i σ n c).2 = !(rd_F (σ 87) (mK σ n) c) := by
  intro c
  induction c with
  | zero => intro _; exact ⟨rfl, rfl⟩
  | succ c ih =>
    intro hc
    obtain ⟨i1, i2⟩ := ih (by omega)
    have fr := mi_frame (σ := σ) (n := n) c
    have e87 : (mr_i σ n c).1 87 = σ 87 := fr.1 87 (by decide) (by decide)
    have eB : (mb (mr_i σ n c).1 c n 12).2 = dd_B (σ 87) (rd_K (σ 87) (mK σ n) c) c := by
      rw [mb_B h7 ((fr.2 29 (by decide)).trans h29) (by rw [fr.1 85 (by decide) (by decide)]; exact hk) (by omega) (by rw [i1]; exact (rd_K_ok hK c).1) (by rw [e87]; exact (hh c (by omega)).1) (hh c (by omega)).2, i1, e87]
    refine ⟨?_, ?_⟩
    · rw [← mr_i1, mK_88 fr h29, i1, eB]
      rfl
    · have e88 : (mr_i σ n c).1 88 = dC.pat (rd_K (σ 87) (mK σ n) c) := by
        rw [← i1]
        rfl
      rw [mr_i2, i2, eB, mbS_88, e88, rd_F, Bool.not_or, ← bn_dec]
theorem mo_K {σ : ax_Z} {n : Nat} {Hf : Nat → Nat} (h7 : n ≤ 7) (h29 : σ 77 29 = 0) (hk : kd_ok (σ 85) n) (hK : dK_ok (mK σ n)) (hh : ∀ c, c < n → σ 87 c = nI (Hf c) ∧ Hf c ≤ 20) : ∀ (q r : Nat) (τ : ax_Z), mi_fr σ τ → mK τ n = rr_K (σ 87) (mK σ n) r → (mr_o τ n q (r + 1)).2 = rr_R (σ 87) (mK σ n) q r ∧ mK (mr_o τ n q (r + 1)).1 n = rr_K (σ 87) (mK σ n) (rr_E (σ 87) (mK σ n) q r) ∧ mi_fr σ (mr_o τ n q (r + 1)).1 := by
  intro q
  induction q with
  | zero => intro r τ fr e; exact ⟨rfl, e, fr⟩
  | succ q ih =>
    intro r τ fr e
    have e87 : τ 87 = σ 87 := fr.1 87 (by decide) (by decide)
    have g := mi_K (σ := τ) (Hf := Hf) h7 ((fr.2 29 (by decide)).trans h29) (by rw [fr.1 85 (by decide) (by decide)]; exact hk) (by rw [e]; exact (rr_K_ok hK r).1) (by rw [e87]; exact hh) n (Nat.le_refl n)
    rw [e87, e] at g
    have fr2 : mi_fr σ (mr_i τ n n).1 := by
      have f := mi_frame (σ := τ) (n := n) n
      exact ⟨fun a a7 ha => (f.1 a a7 ha).trans (fr.1 a a7 ha), fun j hj => (f.2 j hj).trans (fr.2 j hj)⟩
    have hn : (mK σ n).1 = n := rfl
    rw [mr_o, rr_R, rr_E, hn, g.2]
    by_cases hF : rd_F (σ 87) (rr_K (σ 87) (mK σ n) r) n = true
    · rw [hF, if_neg (by decide), if_pos rfl, if_pos rfl]
      exact ih (r + 1) _ fr2 g.1
    · rw [Bool.not_eq_true] at hF
      rw [hF, if_pos (by decide), if_neg (by decide), if_neg (by decide)]
      exact ⟨rfl, g.1, fr2⟩
/-- the book -/
theorem bo_a_t {tm tm' py py' : Nat → Int32} : ∀ k, (∀ h, h < k → py h = py' h ∧ (py h = -1 ∨ ∃ f : Nat, f < 7 ∧ py h = nI f)) → (∀ c, c < 7 → tm c = tm' c) → ∀ c, c < 7 → bo_a tm py k c = bo_a tm' py' k c := by
  intro k
  induction k with
  | zero => intro _ h c hc; exact h c hc
  | succ k ih =>
    intro hp ht c hc
    have i := ih (fun h hh => hp h (by omega)) ht
    obtain ⟨p1, p2⟩ := hp k (by omega)
    unfold bo_a
    rw [← p1]
    rcases p2 with e | ⟨f, f7, e⟩
    · rw [if_pos e, if_pos e]
      exact i c hc
    · rw [e, if_neg (nI_m1 (by omega)), if_neg (nI_m1 (by omega)), nI_clamp (by omega), i f f7]
      by_cases ec : c = f
      · subst ec
        rw [pk_us, pk_us]
      · rw [pk_un ec, pk_un ec]
        exact i c hc
theorem mk_frame {σ : ax_Z} {n : Nat} (k : Nat) {a : Nat} (ha : a < 89 ∨ 92 < a) : mk_S σ n k a = σ a := by
  induction k with
  | zero => rfl
  | succ k ih => rw [mk_S, md_go_ne ha, ih]
theorem mk_B {σ : ax_Z} {n : Nat} {K : dC} (h7 : n ≤ 7) (h29 : ¬ σ 77 29 = 0) (hk : kd_ok (σ 85) n) (hK : dC.eq (mK σ n) K) (ht : ∀ c, c < 7 → σ 92 c = dC.tm K c) : ∀ k c, c < 7 → mk_S σ n k 92 c = bo_f K k c := by
  intro k
  induction k with
  | zero => intro c hc; exact ht c hc
  | succ k ih =>
    intro c hc
    have e29 : mk_S σ n k 77 29 = σ 77 29 := by rw [mk_frame k (by decide)]
    have emt : mt (mk_S σ n k) = mk_S σ n k 92 := by
      unfold mt
      rw [if_neg (by rw [e29]; exact h29)]
    have eK : dC.eq (mK (mk_S σ n k) n) (tm_K K (bo_f K k)) := by
      refine ⟨hK.1, fun d hd => ?_, ?_⟩
      · have hd' : d < n := hd
        obtain ⟨k1, k2, k3, k4⟩ := hK.2.1 d hd
        unfold mK tm_K
        rw [emt, mk_frame k (by decide), mk_frame k (by decide), mk_frame k (by decide)]
        exact ⟨k1, k2, k3, ih d (by omega)⟩
      · show ∀ t, t < 6 → mk_S σ n k 81 (2 + t) = dC.toll K t
        rw [mk_frame (a := 81) k (by decide)]
        exact hK.2.2
    rw [mk_S, md_t h7 (by rw [mk_frame k (by decide)]; exact hk) hc, bo_f]
    refine bo_a_t 12 (fun h hh => ⟨DY_c eK hh, ?_⟩) ih c hc
    rcases dd_y_in (K := mK (mk_S σ n k) n) 12 h with e | ⟨f, f1, e⟩
    · exact Or.inl e
    · have f1' : f < n := f1
      exact Or.inr ⟨f, by omega, e⟩
/-- the goat -/
def mg_S (σ : ax_Z) (n : Nat) (hr : Int32) : ax_Z := ax_up (ax_up (ax_up (ax_up (ax_up (md_go σ n) 77 20 (nI (n + 1))) 85 n 5) 86 n hr) 87 n 0) 88 n 0
theorem mg_K {σ : ax_Z} {n : Nat} {hr : Int32} (h29 : σ 77 29 = 0) : mK (mg_S σ n hr) (n + 1) = go_K (mK σ n) hr := by
  unfold mK go_K mt mg_S
  simp (disch := decide) only [up_ne, ax_row, up_o, md_go_ne]
  rw [if_pos h29, if_pos h29]
theorem mg_kd {σ : ax_Z} {n : Nat} {hr : Int32} (hk : kd_ok (σ 85) n) : kd_ok (mg_S σ n hr 85) (n + 1) := by
  intro c hc
  unfold mg_S
  simp (disch := decide) only [up_ne, ax_row, md_go_ne]
  by_cases e : c = n
  · subst e
    rw [pk_us]
    exact ⟨5, by decide, by decide, rfl⟩
  · rw [pk_un e]
    exact hk c (by omega)
theorem mg_87 {σ : ax_Z} {n : Nat} {hr : Int32} : mg_S σ n hr 87 = upd (σ 87) n 0 := by
  unfold mg_S
  simp (disch := decide) only [up_ne, ax_row, md_go_ne]
/-- shares -/
theorem sh_gs {T n : Nat} (hT : T ≤ 99) (h0 : 0 < n) (hn : n ≤ 6) {k : Nat} (hk : k ≤ 7) : hs_gs (nI T) n k = nI (k * (T / n) + min k (T % n)) := by
  unfold hs_gs
  have hm : T % n < n := Nat.mod_lt T h0
  rw [pk_div (by omega) h0 (by omega), pk_mul, pk_mul, show T / n * n = T - T % n by have := Nat.div_add_mod T n; rw [Nat.mul_comm] at this; omega, pk_sub (by omega), show T - (T - T % n) = T % n by have := Nat.mod_le T n; omega]
  rw [mi_N (a := k) (b := T % n) (by omega) (by omega), nI_add]
theorem sh_ms {T n : Nat} (hT : T ≤ 99) (h0 : 0 < n) (hn : n ≤ 6) : ∀ k, k ≤ 7 → ms_s (nI T) n k = nI (k * (T / n) + min k (T % n)) := by
  have hm : T % n < n := Nat.mod_lt T h0
  have er : nI T - nI T / nI n * nI n = nI (T % n) := pk_rem (by omega) h0 (by omega)
  intro k
  induction k with
  | zero => intro _; rw [Nat.zero_mul, Nat.zero_min]; rfl
  | succ k ih =>
    intro hk
    rw [ms_s, ih (by omega), er, pk_div (by omega) h0 (by omega)]
    by_cases h : k < T % n
    · rw [if_pos (nI_lt h (by omega)), show (1 : Int32) = nI 1 from rfl, nI_add, nI_add, Nat.min_eq_left (by omega), Nat.min_eq_left (by omega), Nat.succ_mul]
      congr 1
      omega
    · rw [if_neg (nI_nlt (by omega) (by omega)), show (0 : Int32) = nI 0 from rfl, nI_add, nI_add, Nat.min_eq_right (by omega), Nat.min_eq_right (by omega), Nat.succ_mul]
      congr 1
      omega
theorem sh_d {T n k : Nat} (hT : T ≤ 99) (h0 : 0 < n) (hn : n ≤ 6) (hk : k < n) : hs_gs (nI T) n (k + 1) - hs_gs (nI T) n k = nI T / nI n + (if nI k < nI T - nI T / nI n * nI n then 1 else 0) := by
  have hm : T % n < n := Nat.mod_lt T h0
  have er : nI T - nI T / nI n * nI n = nI (T % n) := pk_rem (by omega) h0 (by omega)
  rw [sh_gs hT h0 hn (by omega), sh_gs hT h0 hn (by omega), er, pk_div (by omega) h0 (by omega)]
  clear er
  generalize T / n = q
  generalize T % n = r at hm ⊢
  have e : (k + 1) * q = k * q + q := Nat.succ_mul k q
  rw [e]
  generalize k * q = kq
  rw [pk_sub (by omega)]
  by_cases h : k < r
  · rw [if_pos (nI_lt h (by omega)), show (1 : Int32) = nI 1 from rfl, nI_add]
    congr 1
    omega
  · rw [if_neg (nI_nlt (by omega) (by omega)), show (0 : Int32) = nI 0 from rfl, nI_add]
    congr 1
    omega
theorem hs_all_c {f g : Nat → Bool} {n : Nat} (h : ∀ c, c < n → f c = g c) : hs_all f n = hs_all g n := by
  induction n with
  | zero => rfl
  | succ n ih => rw [hs_all, hs_all, ih (fun c hc => h c (by omega)), h n (by omega)]
theorem sh_ok {toll toll' : Nat → Int32} {n : Nat} (ht : ∀ t, t < 6 → toll t = toll' t) (h99 : ∀ t, t < 6 → ∃ T : Nat, T ≤ 99 ∧ toll t = nI T) (h0 : 0 < n) (hn : n ≤ 6) : hs_all (hs_hold toll n) n = hs_all (ms_ok toll' n) n := by
  obtain ⟨T, T9, eT⟩ := hs_toll_99 h99 n
  refine hs_all_c (fun k hk => ?_)
  unfold hs_hold ms_ok
  rw [← hs_toll_c (k := n) ht, ← hs_toll_c (k := k) ht, eT, sh_gs T9 h0 hn (by omega), sh_ms T9 h0 hn k (by omega)]
