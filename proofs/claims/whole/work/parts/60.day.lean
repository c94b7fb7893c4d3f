/-! the reference's day is the day of numbers -/
def kd_ok (kind : Nat → Int32) (n : Nat) : Prop := ∀ c, c < n → ∃ k : Nat, 1 ≤ k ∧ k ≤ 5 ∧ kind c = nI k
def mt (σ : ax_Z) : Nat → Int32 := if σ 77 29 = 0 then fun _ => 0 else σ 92
def mK (σ : ax_Z) (n : Nat) : dC := (n, σ 85, σ 86, σ 88, mt σ, fun t => σ 81 (2 + t))
def mP (v : Int32) : Int32 := if v = -1 then -1000000 else v
theorem kd_fo {v : Int32} {k : Nat} (h1 : 1 ≤ k) (h5 : k ≤ 5) (hv : v = nI k) : decide (v < 4) = (decide (v = 1) || decide (v = 2) || decide (v = 3)) := by
  subst hv
  rcases (show k = 1 ∨ k = 2 ∨ k = 3 ∨ k = 4 ∨ k = 5 by omega) with rfl | rfl | rfl | rfl | rfl <;> decide
theorem mh_tr_eq {σ : ax_Z} {n : Nat} {hr : Int32} (hk : kd_ok (σ 85) n) {c : Nat} (hc : c < n) : mh_tr σ n hr c = hs_tr (σ 85) (σ 86) (σ 88) (σ 89) hr n c := by
  obtain ⟨k, k1, k5, kv⟩ := hk c hc
  unfold mh_tr hs_tr mh_rd mh_st hs_fo
  rw [kd_fo k1 k5 kv, Bool.and_comm]
theorem hs_f_r {rd rd' : Nat → Bool} {ah ah' : Nat → Nat → Bool} {n : Nat} (h1 : ∀ c, c < n → rd c = rd' c) (h2 : ∀ c d, c < n → d < n → rd c = true → rd d = true → ah c d = ah' c d) : hs_f rd ah n = hs_f rd' ah' n := by
  induction n with
  | zero => rfl
  | succ n ih =>
    have e := ih (fun c hc => h1 c (by omega)) (fun c d hc hd => h2 c d (by omega) (by omega))
    unfold hs_f
    rw [← e]
    cases hf : hs_f rd ah n with
    | none => simp only [h1 n (by omega)]
    | some f =>
      obtain ⟨f1, f2⟩ := hs_f_lt hf
      simp only
      by_cases hr : rd n = true
      · rw [h2 n f (by omega) (by omega) hr f2, ← h1 n (by omega)]
      · rw [if_neg (fun z => hr z.1), if_neg (fun z => hr (by rw [h1 n (by omega)]; exact z.1))]
theorem dd_y_hi (K : dC) : ∀ (k h : Nat), k ≤ h → (dd K k).2.2 h = -1 := by
  intro k
  induction k with
  | zero => intro h _; rfl
  | succ k ih =>
    intro h hh
    unfold dd dd_step
    split
    · exact ih h (by omega)
    · show upd (dd K k).2.2 k _ h = -1
      rw [pk_un (by omega)]
      exact ih h (by omega)
theorem ms_c_c {f g : Nat → Bool} {n : Nat} (h : ∀ c, c < n → f c = g c) : ms_c f n = ms_c g n := by
  induction n with
  | zero => rfl
  | succ n ih => rw [ms_c_s, ms_c_s, ih (fun c hc => h c (by omega)), h n (by omega)]
/-- who paid has gone -/
theorem dd_gone (K : dC) : ∀ (k h c : Nat), k ≤ 12 → c < 100 → K.1 ≤ 7 → (dd K k).2.2 h = nI c → ¬ (dd K k).1 c = -1000000 := by
  intro k
  induction k with
  | zero =>
    intro h c _ hc _ e
    exact absurd e.symm (nI_m1 (by omega))
  | succ k ih =>
    intro h c hk hc h7 e
    unfold dd dd_step at e ⊢
    cases hf : dd_f K (dd K k).1 k with
    | none =>
      rw [hf] at e
      exact ih h c (by omega) hc h7 e
    | some f =>
      rw [hf] at e
      obtain ⟨f1, f2⟩ := hs_f_lt hf
      show ¬ (if c < K.1 ∧ dd_tr K (dd K k).1 k c = true then nI k else (dd K k).1 c) = -1000000
      by_cases ht : c < K.1 ∧ dd_tr K (dd K k).1 k c = true
      · rw [if_pos ht]
        exact nI_none (by omega)
      · rw [if_neg ht]
        have e' : upd (dd K k).2.2 k (nI f) h = nI c := e
        by_cases hh : h = k
        · subst hh
          rw [pk_us] at e'
          have : f = c := (nI_eq (by omega) (by omega)).mp e'
          subst this
          exact absurd ⟨f1, by
            show hs_tr _ _ _ _ _ _ _ = true
            unfold hs_tr
            rw [show hs_rd (dC.kind K) (dC.come K) (dC.pat K) (dd K h).1 (nI h) K.1 f = true from f2, Bool.true_or]⟩ ht
        · rw [pk_un hh] at e'
          exact ih h c (by omega) hc h7 e'
theorem bo_a_no {tm py : Nat → Int32} {c : Nat} (hc : c < 100) : ∀ k, (∀ h, h < k → py h = -1 ∨ ∃ f : Nat, f < 100 ∧ f ≠ c ∧ py h = nI f) → bo_a tm py k c = tm c := by
  intro k
  induction k with
  | zero => intro _; rfl
  | succ k ih =>
    intro h
    unfold bo_a
    split
    · exact ih (fun j hj => h j (by omega))
    · next hn =>
      rcases h k (by omega) with e | ⟨f, f1, f2, e⟩
      · exact absurd e hn
      · rw [e, nI_clamp (by omega), pk_un (Ne.symm f2)]
        exact ih (fun j hj => h j (by omega))
theorem mh_rd_eq {σ : ax_Z} {n : Nat} {hr : Int32} : mh_rd σ n hr = hs_rd (σ 85) (σ 86) (σ 88) (σ 89) hr n := rfl
theorem hs_rd_st {kind come pat went : Nat → Int32} {hr : Int32} {n c : Nat} (h : hs_rd kind come pat went hr n c = true) : went c = -1000000 := by
  unfold hs_rd hs_st at h
  simp only [Bool.and_eq_true, decide_eq_true_eq] at h
  exact h.1.2
theorem hs_ah_tm {kind come tm tm' : Nat → Int32} {c d : Nat} (hc : tm c = tm' c) (hd : tm d = tm' d) : hs_ah kind come tm c d = hs_ah kind come tm' c d := by
  unfold hs_ah
  rw [hc, hd]
/-- the hours of the reference's day -/
def md_is (σ τ : ax_Z) (n k : Nat) : Prop := (∀ c, c < n → τ 89 c = (dd (mK σ n) k).1 c ∧ τ 90 c = (dd (mK σ n) k).2.1 c) ∧ (∀ h, h < k → τ 91 h = mP ((dd (mK σ n) k).2.2 h)) ∧ (∀ c, c < 7 → τ 92 c = bo_a (σ 92) (dd (mK σ n) k).2.2 k c) ∧ ∀ a, (a < 89 ∨ 92 < a) → τ a = σ a
theorem md_step {σ τ : ax_Z} {n k : Nat} (h7 : n ≤ 7) (hk : kd_ok (σ 85) n) (hk12 : k < 12) (H : md_is σ τ n k) : md_is σ (mh_go τ n k) n (k + 1) := by
  obtain ⟨H1, H2, H3, H4⟩ := H
  have e85 : τ 85 = σ 85 := H4 85 (by decide)
  have e86 : τ 86 = σ 86 := H4 86 (by decide)
  have e88 : τ 88 = σ 88 := H4 88 (by decide)
  have e81 : τ 81 = σ 81 := H4 81 (by decide)
  have e77 : τ 77 = σ 77 := H4 77 (by decide)
  have crd : ∀ c, c < n → mh_rd τ n (nI k) c = dd_rd (mK σ n) (dd (mK σ n) k).1 k c := by
    rw [mh_rd_eq, e85, e86, e88]
    exact hs_rd_c (fun c hc => ⟨rfl, rfl, rfl, (H1 c hc).1⟩)
  have ctr : ∀ c, c < n → mh_tr τ n (nI k) c = dd_tr (mK σ n) (dd (mK σ n) k).1 k c := by
    intro c hc
    rw [mh_tr_eq (by rw [e85]; exact hk) hc, e85, e86, e88]
    exact hs_tr_c (fun c hc => ⟨rfl, rfl, rfl, (H1 c hc).1⟩) c hc
  have ctm : ∀ c, c < n → (dd (mK σ n) k).1 c = -1000000 → mt τ c = mt σ c := by
    intro c hc hw
    unfold mt
    rw [e77]
    split
    · rfl
    · rw [H3 c (by omega)]
      refine bo_a_no (by omega) k (fun h hh => ?_)
      rcases dd_y_in (K := mK σ n) k h with e | ⟨f, f1, e⟩
      · exact Or.inl e
      · have f1' : f < n := f1
        refine Or.inr ⟨f, by omega, fun z => ?_, e⟩
        subst z
        exact dd_gone (mK σ n) k h f (by omega) (by omega) h7 e hw
  have cf : mh_f τ n (nI k) = dd_f (mK σ n) (dd (mK σ n) k).1 k := by
    unfold mh_f
    refine hs_f_r crd (fun c d hc hd rc rd => ?_)
    rw [crd c hc] at rc
    rw [crd d hd] at rd
    show hs_ah (τ 85) (τ 86) (mt τ) c d = hs_ah (σ 85) (σ 86) (mt σ) c d
    rw [e85, e86]
    exact hs_ah_tm (ctm c hc (hs_rd_st rc)) (ctm d hd (hs_rd_st rd))
  have cms : ms_c (mh_tr τ n (nI k)) n = ms_c (dd_tr (mK σ n) (dd (mK σ n) k).1 k) n := ms_c_c ctr
  have yk : (dd (mK σ n) k).2.2 k = -1 := dd_y_hi _ k k (Nat.le_refl k)
  have hdd : dd (mK σ n) (k + 1) = dd_step (mK σ n) k (dd (mK σ n) k) := rfl
  refine ⟨?_, ?_, ?_, fun a ha => (mh_go_ne ha).trans (H4 a ha)⟩
  · intro c hc
    rw [hdd]
    unfold mh_go dd_step
    rw [← cf]
    cases hf : mh_f τ n (nI k) with
    | none =>
      show ax_up τ 91 k (-1000000) 89 c = _ ∧ ax_up τ 91 k (-1000000) 90 c = _
      rw [up_ne (by decide), up_ne (by decide)]
      exact H1 c hc
    | some f =>
      refine ⟨?_, ?_⟩
      · show ax_up (ax_up (hs_gone _ 89 _ _ n) 90 f _) 92 f _ 89 c = (if c < n ∧ dd_tr (mK σ n) (dd (mK σ n) k).1 k c = true then nI k else (dd (mK σ n) k).1 c)
        rw [up_ne (by decide), up_ne (by decide)]
        unfold hs_gone
        rw [ctr c hc, up_ne (by decide), (H1 c hc).1]
        simp only [true_and]
      · show ax_up (ax_up (hs_gone _ 89 _ _ n) 90 f _) 92 f _ 90 c = upd (dd (mK σ n) k).2.1 f _ c
        rw [up_ne (by decide)]
        by_cases hcf : c = f
        · subst hcf
          rw [up_s, pk_us, cms, e81]
          rfl
        · rw [up_o hcf, pk_un hcf, hs_gone_ne (by decide), up_ne (by decide)]
          exact (H1 c hc).2
  · intro h hh
    rw [hdd]
    unfold mh_go dd_step
    rw [← cf]
    cases hf : mh_f τ n (nI k) with
    | none =>
      show ax_up τ 91 k (-1000000) 91 h = mP ((dd (mK σ n) k).2.2 h)
      by_cases e : h = k
      · subst e
        rw [up_s, yk]
        rfl
      · rw [up_o e]
        exact H2 h (by omega)
    | some f =>
      obtain ⟨f1, f2⟩ := hs_f_lt hf
      show ax_up (ax_up (hs_gone _ 89 _ _ n) 90 f _) 92 f _ 91 h = mP (upd (dd (mK σ n) k).2.2 k (nI f) h)
      rw [up_ne (by decide), up_ne (by decide), hs_gone_ne (by decide)]
      by_cases e : h = k
      · subst e
        rw [up_s, pk_us, mP, if_neg (nI_m1 (by omega))]
      · rw [up_o e, pk_un e]
        exact H2 h (by omega)
  · intro c hc
    rw [hdd]
    unfold mh_go dd_step
    rw [← cf]
    cases hf : mh_f τ n (nI k) with
    | none =>
      show ax_up τ 91 k (-1000000) 92 c = bo_a (σ 92) (dd (mK σ n) k).2.2 (k + 1) c
      rw [up_ne (by decide), bo_a, if_pos yk]
      exact H3 c hc
    | some f =>
      obtain ⟨f1, f2⟩ := hs_f_lt hf
      show ax_up (ax_up (hs_gone _ 89 _ _ n) 90 f _) 92 f (τ 92 f + 1) 92 c = bo_a (σ 92) (upd (dd (mK σ n) k).2.2 k (nI f)) (k + 1) c
      have ea : bo_a (σ 92) (upd (dd (mK σ n) k).2.2 k (nI f)) k = bo_a (σ 92) (dd (mK σ n) k).2.2 k := bo_a_c (fun j hj => pk_un (by omega))
      rw [bo_a, pk_us, if_neg (nI_m1 (by omega)), nI_clamp (by omega), ea]
      by_cases e : c = f
      · subst e
        rw [up_s, pk_us, H3 c hc]
      · rw [up_o e, pk_un e, up_ne (by decide), hs_gone_ne (by decide), up_ne (by decide)]
        exact H3 c hc
theorem md_all {σ : ax_Z} {n : Nat} (h7 : n ≤ 7) (hk : kd_ok (σ 85) n) : ∀ k, k ≤ 12 → md_is σ (md_h σ n k) n k := by
  intro k
  induction k with
  | zero =>
    intro _
    refine ⟨fun c hc => ?_, fun h hh => by omega, fun c hc => ?_, fun a ha => md_an_ne (by omega)⟩
    · show md_an σ n 89 c = -1000000 ∧ md_an σ n 90 c = 0
      unfold md_an
      rw [if_pos ⟨rfl, hc⟩, if_neg (by omega), if_pos ⟨rfl, hc⟩]
      exact ⟨rfl, rfl⟩
    · show md_an σ n 92 c = σ 92 c
      rw [md_an_ne (by decide)]
  | succ k ih =>
    intro hk12
    exact md_step h7 hk (by omega) (ih (by omega))
theorem md_w {σ : ax_Z} {n c : Nat} (h7 : n ≤ 7) (hk : kd_ok (σ 85) n) (hc : c < n) : md_go σ n 89 c = DW (mK σ n) c := ((md_all h7 hk 12 (by decide)).1 c hc).1
theorem md_p {σ : ax_Z} {n c : Nat} (h7 : n ≤ 7) (hk : kd_ok (σ 85) n) (hc : c < n) : md_go σ n 90 c = DP (mK σ n) c := ((md_all h7 hk 12 (by decide)).1 c hc).2
theorem md_y {σ : ax_Z} {n h : Nat} (h7 : n ≤ 7) (hk : kd_ok (σ 85) n) (hh : h < 12) : md_go σ n 91 h = mP (DY (mK σ n) h) := (md_all h7 hk 12 (by decide)).2.1 h hh
theorem md_t {σ : ax_Z} {n c : Nat} (h7 : n ≤ 7) (hk : kd_ok (σ 85) n) (hc : c < 7) : md_go σ n 92 c = bo_a (σ 92) (DY (mK σ n)) 12 c := (md_all h7 hk 12 (by decide)).2.2.1 c hc
