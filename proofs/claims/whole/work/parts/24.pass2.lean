theorem ax_isP.apart {p q : Nat} (hp : ax_isP p) (hq : ax_isP q) (h : p ≠ q) : q + 10 ≤ p ∨ p + 10 ≤ q := by
  rcases hp with rfl | rfl | rfl | rfl | rfl <;> rcases hq with rfl | rfl | rfl | rfl | rfl <;> omega
theorem ax_bn {v : Int32} (h : v = 0 ∨ v = 1) : narrow .boolean (.int v) = .int v := by
  rcases h with rfl | rfl <;> rfl
theorem ax_bf {v : Int32} (h : v = 0 ∨ v = 1) : fits .boolean (.int v) = true := by
  rcases h with rfl | rfl <;> rfl
theorem ms_full {f : Nat → Bool} {n : Nat} : ms_k f n = 2 ^ n - 1 ↔ hs_all f n = true := by
  induction n with
  | zero => simp [ms_k, hs_all]
  | succ n ih =>
    have hl := ms_lt f n
    have h2 : 2 ^ (n + 1) = 2 ^ n + 2 ^ n := by rw [Nat.pow_succ]; omega
    rw [show ms_k f (n + 1) = ms_k f n + (if f n = true then 2 ^ n else 0) from rfl, show hs_all f (n + 1) = (hs_all f n && f n) from rfl, Bool.and_eq_true, ← ih]
    by_cases hf : f n = true
    · rw [if_pos hf]
      constructor
      · intro h; exact ⟨by omega, hf⟩
      · intro h; omega
    · rw [if_neg hf]
      constructor
      · intro h; omega
      · intro h; exact absurd h.2 hf
theorem hs_all_iff {f : Nat → Bool} {n : Nat} : hs_all f n = true ↔ ∀ c, c < n → f c = true := by
  induction n with
  | zero => simp [hs_all]
  | succ n ih =>
    rw [show hs_all f (n + 1) = (hs_all f n && f n) from rfl, Bool.and_eq_true, ih]
    constructor
    · intro h c hc
      by_cases e : c = n
      · subst e; exact h.2
      · exact h.1 c (by omega)
    · intro h
      exact ⟨fun c hc => h c (by omega), h n (by omega)⟩
theorem hp_an_gn {σ : ax_Z} {p c : Nat} (h : c < 7) : hp_gn (hp_an σ p) p c = false := by
  unfold hp_gn hp_an
  simp (disch := omega) only [up_ne, fi_ne, fi_in]
  rfl
theorem ms_none {f : Nat → Bool} {n : Nat} (h : ∀ c, c < n → f c = false) : ms_k f n = 0 := by
  rw [ms_congr (g := fun _ => false) h]
  induction n with
  | zero => rfl
  | succ n ih =>
    rw [show ms_k (fun _ => false) (n + 1) = ms_k (fun _ => false) n + 0 from rfl, ih (fun c hc => h c (by omega))]
/-- after how many hours the day ends -/
def hp_kk (σ : ax_Z) (p n : Nat) : Nat → Nat → Nat
  | 0, k => k
  | q + 1, k => if hs_all (hp_gn (hp_dn σ p n k) p) n = true then k else hp_kk σ p n q (k + 1)
/-- a day, told -/
def hp_dy (σ : ax_Z) (p n : Nat) : ax_Z := ax_up (hp_dn σ p n 12) p 11 (nI (hp_kk σ p n 12 0))
theorem hp_tm_or {σ : ax_Z} {p n k : Nat} (hk : k < 100) : nI (ms_k (hp_gn σ p) n) ||| nI (hp_tm σ p n) = nI (ms_k (hp_gn (hp_go σ p n k) p) n) := by
  rw [nI_or]
  congr 1
  rw [ms_congr (fun c hc => hp_go_gn (σ := σ) (p := p) hk hc)]
  unfold hp_tm
  cases hp_f σ p n with
  | none => simp
  | some f => rw [ms_or]
theorem hp_wb_0 {σ : ax_Z} {p h : Nat} : hp_wb σ p h 0 = σ := by
  funext a b
  simp [hp_wb]
theorem hp_wb_t {σ : ax_Z} {p h c : Nat} (e : σ (p + 6) c = nI h) : ax_up (ax_up (hp_wb σ p h c) (p + 6) c (-1000000)) (p + 7) c 0 = hp_wb σ p h (c + 1) := by
  funext a b
  unfold ax_up hp_wb
  by_cases h1 : b = c
  · subst h1
    by_cases h2 : a = p + 6
    · subst h2; simp [e]
    · by_cases h3 : a = p + 7
      · subst h3; simp [e]
      · simp [h2, h3]
  · have : (b < c + 1) = (b < c) := by simp; omega
    simp [h1, this]
theorem hp_wb_f {σ : ax_Z} {p h c : Nat} (e : ¬ σ (p + 6) c = nI h) : hp_wb σ p h (c + 1) = hp_wb σ p h c := by
  funext a b
  unfold hp_wb
  by_cases h1 : b = c
  · subst h1
    simp [e]
  · have : (b < c + 1) = (b < c) := by simp; omega
    simp [this]
def ac_sh (σ : ax_Z) : ax_Z := ax_cp (ax_cp (ax_up σ 25 2 (nI 23)) 26 26 1 0 23) 27 27 1 0 23
def ac_put (σ : ax_Z) (m : Nat) (w b : Int32) : ax_Z := ax_up (ax_up (ax_up σ 26 m w) 27 m b) 25 2 (nI (m + 1))
/-- an act is kept -/
def ac_keep (σ : ax_Z) (m : Nat) (w b : Int32) : ax_Z := if m = 24 then ac_put (ac_sh σ) 23 w b else ac_put σ m w b
def ro_new (σ : ax_Z) (c : Nat) (lane n : Int32) : ax_Z := ax_up (ax_up (ax_up (ax_fill σ (42 + 2 * c) 40 0) (41 + 2 * c) 1 1) (41 + 2 * c) 2 lane) (41 + 2 * c) 3 n

set_option maxRecDepth 20000 in
set_option maxHeartbeats 4000000 in
theorem w_X3_copyAll {Y : ax_Y} {ad : Nat → Nat} (F : ax_F Y) {l : Launch} {σ : ax_Z} {k0 k1 m : Nat} (hs0 : ax_sh k0 = .inl (0, m)) (hs1 : ax_sh k1 = .inl (0, m)) (hm : m < 2000) : ax_m Y ad l iX3_copyAll 1 σ [.ref (ad k0), .ref (ad k1)] none (ax_cp σ k0 k1 0 0 m) := by
  refine ax_m.of F kX3_copyAll.1 [some (.ref (ad k0)), some (.ref (ad k1))] rfl (Nat.le_of_ble_eq_true rfl) (fun x C => ?_)
  refine ax_aload_0 (pc := 0) C dX3_copyAll_0 ?_
  refine ax_iconst (pc := 1) (v := 0) C dX3_copyAll_1 (by decide) ?_
  refine ax_aload_1 (pc := 2) C dX3_copyAll_2 ?_
  refine ax_iconst (pc := 3) (v := 0) C dX3_copyAll_3 (by decide) ?_
  refine ax_aload_0 (pc := 4) C dX3_copyAll_4 ?_
  refine ax_alen (pc := 5) C dX3_copyAll_5 hs0 ?_
  refine ax_aload_1 (pc := 6) C dX3_copyAll_6 ?_
  refine ax_alen (pc := 7) C dX3_copyAll_7 hs1 ?_
  refine ax_min (pc := 8) C (by decide) mi_X3 dX3_copyAll_8 (Nat.le_of_ble_eq_true rfl) rfl ⟨Nat.le_refl _, Nat.le_refl _⟩ ?_
  refine ax_copye (pc := 11) C (s := 0) (d := 0) (n := m) rfl rfl (by split <;> rfl) (by decide) ac_X3 dX3_copyAll_11 hs0 hs1 (by omega) (by omega) hm hm (Nat.le_of_ble_eq_true rfl) rfl ?_
  exact ax_vr (pc := 14) C rfl dX3_copyAll_14 rfl

set_option maxRecDepth 20000 in
set_option maxHeartbeats 4000000 in
theorem w_X3_become {Y : ax_Y} {ad : Nat → Nat} (F : ax_F Y) {l : Launch} {σ : ax_Z} {p q : Nat} (hp : ax_isP p) (hq : ax_isP q) (hne : p ≠ q) (ht : σ q 9 = 0 ∨ σ q 9 = 1) : ax_m Y ad l iX3_become 2 σ [.ref (ad p), .ref (ad q)] none (hp_bc σ p q) := by
  have hpq := hp.apart hq hne
  refine ax_m.of F kX3_become.1 [some (.ref (ad p)), some (.ref (ad q))] rfl (Nat.le_of_ble_eq_true rfl) (fun x C => ?_)
  refine ax_aload_1 (pc := 0) C dX3_become_0 ?_
  refine ax_getR (pc := 1) C fX3_9 dX3_become_1 hq.o rfl ?_
  refine ax_aload_0 (pc := 4) C dX3_become_4 ?_
  refine ax_getR (pc := 5) C fX3_9 dX3_become_5 hp.o rfl ?_
  refine ax_callSv (pc := 8) C (w_X3_copyAll F hq.a1 hp.a1 (by omega)) kX3_copyAll mX3_39 dX3_become_8 (by decide) rfl rfl (Nat.le_of_ble_eq_true rfl) rfl ⟨Nat.le_refl _, Nat.le_refl _⟩ ?_
  refine ax_aload_1 (pc := 11) C dX3_become_11 ?_
  refine ax_getR (pc := 12) C fX3_15 dX3_become_12 hq.o rfl ?_
  refine ax_aload_0 (pc := 15) C dX3_become_15 ?_
  refine ax_getR (pc := 16) C fX3_15 dX3_become_16 hp.o rfl ?_
  refine ax_callSv (pc := 19) C (w_X3_copyAll F hq.a2 hp.a2 (by omega)) kX3_copyAll mX3_39 dX3_become_19 (by decide) rfl rfl (Nat.le_of_ble_eq_true rfl) rfl ⟨Nat.le_refl _, Nat.le_refl _⟩ ?_
  refine ax_aload_1 (pc := 22) C dX3_become_22 ?_
  refine ax_getR (pc := 23) C fX3_18 dX3_become_23 hq.o rfl ?_
  refine ax_aload_0 (pc := 26) C dX3_become_26 ?_
  refine ax_getR (pc := 27) C fX3_18 dX3_become_27 hp.o rfl ?_
  refine ax_callSv (pc := 30) C (w_X3_copyAll F hq.a3 hp.a3 (by omega)) kX3_copyAll mX3_39 dX3_become_30 (by decide) rfl rfl (Nat.le_of_ble_eq_true rfl) rfl ⟨Nat.le_refl _, Nat.le_refl _⟩ ?_
  refine ax_aload_1 (pc := 33) C dX3_become_33 ?_
  refine ax_getR (pc := 34) C fX3_21 dX3_become_34 hq.o rfl ?_
  refine ax_aload_0 (pc := 37) C dX3_become_37 ?_
  refine ax_getR (pc := 38) C fX3_21 dX3_become_38 hp.o rfl ?_
  refine ax_callSv (pc := 41) C (w_X3_copyAll F hq.a4 hp.a4 (by omega)) kX3_copyAll mX3_39 dX3_become_41 (by decide) rfl rfl (Nat.le_of_ble_eq_true rfl) rfl ⟨Nat.le_refl _, Nat.le_refl _⟩ ?_
  refine ax_aload_1 (pc := 44) C dX3_become_44 ?_
  refine ax_getR (pc := 45) C fX3_24 dX3_become_45 hq.o rfl ?_
  refine ax_aload_0 (pc := 48) C dX3_become_48 ?_
  refine ax_getR (pc := 49) C fX3_24 dX3_become_49 hp.o rfl ?_
  refine ax_callSv (pc := 52) C (w_X3_copyAll F hq.a5 hp.a5 (by omega)) kX3_copyAll mX3_39 dX3_become_52 (by decide) rfl rfl (Nat.le_of_ble_eq_true rfl) rfl ⟨Nat.le_refl _, Nat.le_refl _⟩ ?_
  refine ax_aload_1 (pc := 55) C dX3_become_55 ?_
  refine ax_getR (pc := 56) C fX3_27 dX3_become_56 hq.o rfl ?_
  refine ax_aload_0 (pc := 59) C dX3_become_59 ?_
  refine ax_getR (pc := 60) C fX3_27 dX3_become_60 hp.o rfl ?_
  refine ax_callSv (pc := 63) C (w_X3_copyAll F hq.a6 hp.a6 (by omega)) kX3_copyAll mX3_39 dX3_become_63 (by decide) rfl rfl (Nat.le_of_ble_eq_true rfl) rfl ⟨Nat.le_refl _, Nat.le_refl _⟩ ?_
  refine ax_aload_1 (pc := 66) C dX3_become_66 ?_
  refine ax_getR (pc := 67) C fX3_30 dX3_become_67 hq.o rfl ?_
  refine ax_aload_0 (pc := 70) C dX3_become_70 ?_
  refine ax_getR (pc := 71) C fX3_30 dX3_become_71 hp.o rfl ?_
  refine ax_callSv (pc := 74) C (w_X3_copyAll F hq.a7 hp.a7 (by omega)) kX3_copyAll mX3_39 dX3_become_74 (by decide) rfl rfl (Nat.le_of_ble_eq_true rfl) rfl ⟨Nat.le_refl _, Nat.le_refl _⟩ ?_
  refine ax_aload_1 (pc := 77) C dX3_become_77 ?_
  refine ax_getR (pc := 78) C fX3_33 dX3_become_78 hq.o rfl ?_
  refine ax_aload_0 (pc := 81) C dX3_become_81 ?_
  refine ax_getR (pc := 82) C fX3_33 dX3_become_82 hp.o rfl ?_
  refine ax_callSv (pc := 85) C (w_X3_copyAll F hq.a8 hp.a8 (by omega)) kX3_copyAll mX3_39 dX3_become_85 (by decide) rfl rfl (Nat.le_of_ble_eq_true rfl) rfl ⟨Nat.le_refl _, Nat.le_refl _⟩ ?_
  refine ax_aload_1 (pc := 88) C dX3_become_88 ?_
  refine ax_getR (pc := 89) C fX3_36 dX3_become_89 hq.o rfl ?_
  refine ax_aload_0 (pc := 92) C dX3_become_92 ?_
  refine ax_getR (pc := 93) C fX3_36 dX3_become_93 hp.o rfl ?_
  refine ax_callSv (pc := 96) C (w_X3_copyAll F hq.a9 hp.a9 (by omega)) kX3_copyAll mX3_39 dX3_become_96 (by decide) rfl rfl (Nat.le_of_ble_eq_true rfl) rfl ⟨Nat.le_refl _, Nat.le_refl _⟩ ?_
  refine ax_aload_0 (pc := 99) C dX3_become_99 ?_
  refine ax_aload_1 (pc := 100) C dX3_become_100 ?_
  refine ax_getI (pc := 101) C fX3_43 dX3_become_101 hq.o rfl ?_
  refine ax_val C (show _ = σ q 9 by simp (disch := omega) only [up_ne, cp_ne]) ?_
  refine ax_putI (pc := 104) C fX3_43 dX3_become_104 hp.o rfl (ax_bn ht) (ax_bf ht) ?_
  refine ax_aload_0 (pc := 107) C dX3_become_107 ?_
  refine ax_aload_1 (pc := 108) C dX3_become_108 ?_
  refine ax_getI (pc := 109) C fX3_47 dX3_become_109 hq.o rfl ?_
  refine ax_val C (show _ = σ q 10 by simp (disch := omega) only [up_ne, cp_ne]) ?_
  refine ax_putI (pc := 112) C fX3_47 dX3_become_112 hp.o rfl rfl rfl ?_
  refine ax_aload_0 (pc := 115) C dX3_become_115 ?_
  refine ax_aload_1 (pc := 116) C dX3_become_116 ?_
  refine ax_getI (pc := 117) C fX3_51 dX3_become_117 hq.o rfl ?_
  refine ax_val C (show _ = σ q 11 by simp (disch := omega) only [up_ne, cp_ne]) ?_
  refine ax_putI (pc := 120) C fX3_51 dX3_become_120 hp.o rfl rfl rfl ?_
  exact ax_vr (pc := 123) C rfl dX3_become_123 rfl

set_option maxRecDepth 20000 in
set_option maxHeartbeats 4000000 in
theorem w_X3_beginAnew {Y : ax_Y} {ad : Nat → Nat} (F : ax_F Y) {l : Launch} {σ : ax_Z} {p : Nat} (hp : ax_isP p) : ax_m Y ad l iX3_beginAnew 1 σ [.ref (ad p)] none (hp_an σ p) := by
  refine ax_m.of F kX3_beginAnew.1 [some (.ref (ad p))] rfl (Nat.le_of_ble_eq_true rfl) (fun x C => ?_)
  refine ax_aload_0 (pc := 0) C dX3_beginAnew_0 ?_
  refine ax_getR (pc := 1) C fX3_27 dX3_beginAnew_1 hp.o rfl ?_
  refine ax_ldc (pc := 4) C dX3_beginAnew_4 qX3_66 ?_
  refine ax_callSv (pc := 6) C (w_J7_fill_53178 F hp.a6 (by omega)) kJ7_fill_53178 mX3_67 dX3_beginAnew_6 (by decide) rfl rfl (Nat.le_of_ble_eq_true rfl) rfl ⟨Nat.le_refl _, Nat.le_refl _⟩ ?_
  refine ax_aload_0 (pc := 9) C dX3_beginAnew_9 ?_
  refine ax_getR (pc := 10) C fX3_30 dX3_beginAnew_10 hp.o rfl ?_
  refine ax_iconst (pc := 13) (v := 0) C dX3_beginAnew_13 (by decide) ?_
  refine ax_callSv (pc := 14) C (w_J7_fill_53178 F hp.a7 (by omega)) kJ7_fill_53178 mX3_67 dX3_beginAnew_14 (by decide) rfl rfl (Nat.le_of_ble_eq_true rfl) rfl ⟨Nat.le_refl _, Nat.le_refl _⟩ ?_
  refine ax_aload_0 (pc := 17) C dX3_beginAnew_17 ?_
  refine ax_getR (pc := 18) C fX3_36 dX3_beginAnew_18 hp.o rfl ?_
  refine ax_iconst (pc := 21) (v := (-1)) C dX3_beginAnew_21 (by decide) ?_
  refine ax_callSv (pc := 22) C (w_J7_fill_53178 F hp.a9 (by omega)) kJ7_fill_53178 mX3_67 dX3_beginAnew_22 (by decide) rfl rfl (Nat.le_of_ble_eq_true rfl) rfl ⟨Nat.le_refl _, Nat.le_refl _⟩ ?_
  refine ax_aload_0 (pc := 25) C dX3_beginAnew_25 ?_
  refine ax_iconst (pc := 26) (v := 0) C dX3_beginAnew_26 (by decide) ?_
  refine ax_putI (pc := 27) C fX3_51 dX3_beginAnew_27 hp.o rfl rfl rfl ?_
  exact ax_vr (pc := 30) C rfl dX3_beginAnew_30 rfl

set_option maxRecDepth 20000 in
set_option maxHeartbeats 4000000 in
theorem w_X3_runDay {Y : ax_Y} {ad : Nat → Nat} (F : ax_F Y) {l : Launch} {σ : ax_Z} {p n : Nat} (hp : ax_isP p) (hn : σ p 10 = nI n) (h7 : n ≤ 7) : ax_m Y ad l iX3_runDay 3 σ [.ref (ad p)] none (hp_dy σ p n) := by
  refine ax_m.of F kX3_runDay.1 [some (.ref (ad p)), none, none, none] rfl (Nat.le_of_ble_eq_true rfl) (fun x C => ?_)
  have loop : ∀ (q : Nat) (k q0 : Nat), k + q0 = 12 → hp_kk σ p n q0 k = hp_kk σ p n 12 0 → q0 < q → ax_S x Y ad 0 0 (ax_Q x Y ad none 96 (ax_g Y ad (hp_dy σ p n)) 0 0) (hp_dn σ p n k) 17 [some (.ref (ad p)), some (.int (nI (2 ^ n - 1))), some (.int (nI (ms_k (hp_gn (hp_dn σ p n k) p) n))), some (.int (nI k))] [] := by
    intro q
    induction q with
    | zero => intro k q0 hkq hK hq0; exfalso; omega
    | succ q ih =>
      intro k q0 hkq hK hq0
      have hb1 : ms_k (hp_gn (hp_dn σ p n k) p) n < 2 ^ 7 := Nat.lt_of_lt_of_le (ms_lt _ n) (Nat.pow_le_pow_right (by decide) h7)
      have hb2 : 2 ^ n ≤ 2 ^ 7 := Nat.pow_le_pow_right (by decide) h7
      refine ax_iload_3 (pc := 17) C dX3_runDay_17 ?_
      refine ax_bipush (pc := 18) (v := 12) C dX3_runDay_18 (by decide) ?_
      refine ax_icmp_ge (pc := 20) (tgt := 41) C dX3_runDay_20 (by decide) (fun h20 => ?_) (fun h20 => ?_)
      · have hk12 : ¬ k < 12 := fun z => nI_ge (a := k) (b := 12) z (by decide) h20
        exact ax_vr (pc := 41) C rfl dX3_runDay_41 (by
                    have hk : k = 12 := by omega
                    subst hk
                    have hq : q0 = 0 := by omega
                    subst hq
                    rw [hp_dy, ← hK, show hp_kk σ p n 0 12 = 12 from rfl, up_id (hp_dn_h 12)])
      · have hk12 : k < 12 := Nat.lt_of_not_le (fun z => h20 (nI_le (a := 12) z (by omega)))
        refine ax_iload_2 (pc := 23) C dX3_runDay_23 ?_
        refine ax_iload_1 (pc := 24) C dX3_runDay_24 ?_
        refine ax_icmp_eq (pc := 25) (tgt := 41) C dX3_runDay_25 (by decide) (fun h25 => ?_) (fun h25 => ?_)
        · have hal : hs_all (hp_gn (hp_dn σ p n k) p) n = true := ms_full.mp ((nI_eq (by omega) (by omega)).mp h25)
          exact ax_vr (pc := 41) C rfl dX3_runDay_41 (by
                      have e := hp_dn_done k (12 - k) (hs_all_iff.mp hal)
                      rw [show k + (12 - k) = 12 by omega] at e
                      obtain ⟨q1, rfl⟩ : ∃ q1, q0 = q1 + 1 := ⟨q0 - 1, by omega⟩
                      rw [hp_kk, if_pos hal] at hK
                      rw [hp_dy, ← hK, e, up_up, up_id (hp_dn_h k)])
        · have hal : ¬ hs_all (hp_gn (hp_dn σ p n k) p) n = true := fun z => h25 (by rw [ms_full.mpr z])
          refine ax_iload_2 (pc := 28) C dX3_runDay_28 ?_
          refine ax_aload_0 (pc := 29) C dX3_runDay_29 ?_
          refine ax_callVi (pc := 30) C (w_X3_goBy F hp (n := n) (by rw [hp_dn_o k (by decide)]; exact hn) h7 (hp_dn_h k) (by omega)) kX3_goBy mX3_76 dX3_runDay_30 (by decide) rfl hp.o rfl rfl rfl (Nat.le_of_ble_eq_true rfl) rfl ⟨Nat.le_refl _, Nat.le_refl _⟩ ?_
          refine ax_ior (pc := 33) C dX3_runDay_33 ?_
          refine ax_val C (hp_tm_or (k := k) (by omega)) ?_
          refine ax_istore_2 (pc := 34) C dX3_runDay_34 rfl ?_
          refine ax_iinc_3 (pc := 35) C dX3_runDay_35 (1) (by decide) rfl ?_
          refine ax_goto (pc := 38) (tgt := 17) C dX3_runDay_38 (by decide) ?_
          obtain ⟨q1, rfl⟩ : ∃ q1, q0 = q1 + 1 := ⟨q0 - 1, by omega⟩
          rw [hp_kk, if_neg hal] at hK
          refine ax_Leq ?_ (ih (k + 1) q1 (by omega) hK (by omega))
          rw [nI_1]
          rfl
  refine ax_aload_0 (pc := 0) C dX3_runDay_0 ?_
  refine ax_callVv (pc := 1) C (w_X3_beginAnew F hp) kX3_beginAnew mX3_73 dX3_runDay_1 (by decide) rfl hp.o rfl rfl rfl (Nat.le_of_ble_eq_true rfl) rfl ⟨Nat.le_refl _, Nat.le_refl _⟩ ?_
  refine ax_iconst (pc := 4) (v := 1) C dX3_runDay_4 (by decide) ?_
  refine ax_aload_0 (pc := 5) C dX3_runDay_5 ?_
  refine ax_getI (pc := 6) C fX3_47 dX3_runDay_6 hp.o rfl ?_
  refine ax_val C (show _ = nI n by rw [← hn]; exact hp_dn_o (σ := σ) (n := n) 0 (by decide)) ?_
  refine ax_ishl (pc := 9) C dX3_runDay_9 ?_
  refine ax_iconst (pc := 10) (v := 1) C dX3_runDay_10 (by decide) ?_
  refine ax_isub (pc := 11) C dX3_runDay_11 ?_
  refine ax_val C (show _ = nI (2 ^ n - 1) by rw [ms_one (by omega), show (1 : Int32) = nI 1 from rfl, pk_sub Nat.one_le_two_pow]) ?_
  refine ax_istore_1 (pc := 12) C dX3_runDay_12 rfl ?_
  refine ax_iconst (pc := 13) (v := 0) C dX3_runDay_13 (by decide) ?_
  refine ax_istore_2 (pc := 14) C dX3_runDay_14 rfl ?_
  refine ax_iconst (pc := 15) (v := 0) C dX3_runDay_15 (by decide) ?_
  refine ax_istore_3 (pc := 16) C dX3_runDay_16 rfl ?_
  refine ax_Leq ?_ (loop 13 0 12 rfl rfl (by decide))
  rw [ms_none (f := hp_gn (hp_dn σ p n 0) p) (n := n) (fun c hc => hp_an_gn (by omega))]
  rfl

set_option maxRecDepth 20000 in
set_option maxHeartbeats 4000000 in
theorem w_X3_goBack {Y : ax_Y} {ad : Nat → Nat} (F : ax_F Y) {l : Launch} {σ : ax_Z} {p n : Nat} (hp : ax_isP p) (hn : σ p 10 = nI n) (h7 : n ≤ 7) {h : Nat} (hr : σ p 11 = nI (h + 1)) (hh : h < 12) : ax_m Y ad l iX3_goBack 0 σ [.ref (ad p)] none (hp_bk σ p n h) := by
  refine ax_m.of F kX3_goBack.1 [some (.ref (ad p)), none] rfl (Nat.le_of_ble_eq_true rfl) (fun x C => ?_)
  have loop : ∀ (q : Nat) (c : Nat) (τ : ax_Z), τ = hp_wb (ax_up (ax_up σ p 11 (nI h)) (p + 9) h (-1)) p h c → c ≤ n → n < c + q → ax_S x Y ad 0 0 (ax_Q x Y ad none 96 (ax_g Y ad (hp_bk σ p n h)) 0 0) τ 30 [some (.ref (ad p)), some (.int (nI c))] [] := by
    intro q
    induction q with
    | zero => intro c τ e h1 h2; exfalso; omega
    | succ q ih =>
      intro c τ e h1 h2
      have e10 : τ p 10 = nI n := by rw [e, ← hn]; simp [hp_wb, ax_up]
      have e11 : τ p 11 = nI h := by rw [e]; simp [hp_wb, ax_up]
      have e6 : τ (p + 6) c = (ax_up (ax_up σ p 11 (nI h)) (p + 9) h (-1)) (p + 6) c := by rw [e]; simp [hp_wb]
      refine ax_iload_1 (pc := 30) C dX3_goBack_30 ?_
      refine ax_aload_0 (pc := 31) C dX3_goBack_31 ?_
      refine ax_getI (pc := 32) C fX3_47 dX3_goBack_32 hp.o rfl ?_
      refine ax_icmp_ge (pc := 35) (tgt := 72) C dX3_goBack_35 (by decide) (fun h35 => ?_) (fun h35 => ?_)
      · have hcn : ¬ c < n := fun q => nI_ge q (by omega) (by rw [← e10]; exact h35)
        exact ax_vr (pc := 72) C rfl dX3_goBack_72 (by rw [e, show c = n by omega]; rfl)
      · have hcn : c < n := Nat.lt_of_not_le (fun q => h35 (by rw [e10]; exact nI_le q (by omega)))
        refine ax_aload_0 (pc := 38) C dX3_goBack_38 ?_
        refine ax_getR (pc := 39) C fX3_27 dX3_goBack_39 hp.o rfl ?_
        refine ax_iload_1 (pc := 42) C dX3_goBack_42 ?_
        refine ax_ian (pc := 43) C dX3_goBack_43 hp.a6 (by omega) (by omega) ?_
        refine ax_aload_0 (pc := 44) C dX3_goBack_44 ?_
        refine ax_getI (pc := 45) C fX3_51 dX3_goBack_45 hp.o rfl ?_
        refine ax_icmp_ne (pc := 48) (tgt := 66) C dX3_goBack_48 (by decide) (fun h48 => ?_) (fun h48 => ?_)
        · rw [e6, e11] at h48
          refine ax_iinc_1 (pc := 66) C dX3_goBack_66 (1) (by decide) rfl ?_
          refine ax_goto (pc := 69) (tgt := 30) C dX3_goBack_69 (by decide) ?_
          refine ax_Leq (by rw [nI_1]) (ih (c + 1) _ ?_ (by omega) (by omega))
          rw [e]
          exact (hp_wb_f h48).symm
        · rw [e6, e11] at h48
          refine ax_aload_0 (pc := 51) C dX3_goBack_51 ?_
          refine ax_getR (pc := 52) C fX3_27 dX3_goBack_52 hp.o rfl ?_
          refine ax_iload_1 (pc := 55) C dX3_goBack_55 ?_
          refine ax_ldc (pc := 56) C dX3_goBack_56 qX3_66 ?_
          refine ax_isn (pc := 58) C dX3_goBack_58 hp.a6 (by omega) (by omega) ?_
          refine ax_aload_0 (pc := 59) C dX3_goBack_59 ?_
          refine ax_getR (pc := 60) C fX3_30 dX3_goBack_60 hp.o rfl ?_
          refine ax_iload_1 (pc := 63) C dX3_goBack_63 ?_
          refine ax_iconst (pc := 64) (v := 0) C dX3_goBack_64 (by decide) ?_
          refine ax_isn (pc := 65) C dX3_goBack_65 hp.a7 (by omega) (by omega) ?_
          refine ax_iinc_1 (pc := 66) C dX3_goBack_66 (1) (by decide) rfl ?_
          refine ax_goto (pc := 69) (tgt := 30) C dX3_goBack_69 (by decide) ?_
          refine ax_Leq (by rw [nI_1]) (ih (c + 1) _ ?_ (by omega) (by omega))
          rw [e]
          exact hp_wb_t h48
  refine ax_aload_0 (pc := 0) C dX3_goBack_0 ?_
  refine ax_getI (pc := 1) C fX3_51 dX3_goBack_1 hp.o rfl ?_
  refine ax_if_ne (pc := 4) (tgt := 8) C dX3_goBack_4 (by decide) (fun _ => ?_) (fun z => False.elim (absurd z (by rw [hr]; exact nI_ne0 (by omega) (by omega))))
  refine ax_aload_0 (pc := 8) C dX3_goBack_8 ?_
  refine ax_dup (pc := 9) C dX3_goBack_9 rfl ?_
  refine ax_getI (pc := 10) C fX3_51 dX3_goBack_10 hp.o rfl ?_
  refine ax_iconst (pc := 13) (v := 1) C dX3_goBack_13 (by decide) ?_
  refine ax_isub (pc := 14) C dX3_goBack_14 ?_
  refine ax_val C (show _ = nI h by rw [hr]; exact nI_pred h) ?_
  refine ax_putI (pc := 15) C fX3_51 dX3_goBack_15 hp.o rfl rfl rfl ?_
  refine ax_aload_0 (pc := 18) C dX3_goBack_18 ?_
  refine ax_getR (pc := 19) C fX3_36 dX3_goBack_19 hp.o rfl ?_
  refine ax_aload_0 (pc := 22) C dX3_goBack_22 ?_
  refine ax_getI (pc := 23) C fX3_51 dX3_goBack_23 hp.o rfl ?_
  refine ax_iconst (pc := 26) (v := (-1)) C dX3_goBack_26 (by decide) ?_
  refine ax_ise (pc := 27) (c := h) C dX3_goBack_27 hp.a9 up_s (by omega) (by omega) ?_
  refine ax_iconst (pc := 28) (v := 0) C dX3_goBack_28 (by decide) ?_
  refine ax_istore_1 (pc := 29) C dX3_goBack_29 rfl ?_
  exact loop (n + 1) 0 _ hp_wb_0.symm (by omega) (by omega)

set_option maxRecDepth 20000 in
set_option maxHeartbeats 4000000 in
theorem w_X3_cartsGone {Y : ax_Y} {ad : Nat → Nat} (F : ax_F Y) {l : Launch} {σ : ax_Z} {p n : Nat} (hp : ax_isP p) (hn : σ p 10 = nI n) (h7 : n ≤ 7) : ax_m Y ad l iX3_cartsGone 0 σ [.ref (ad p)] (some (.int (nI (ms_c (hp_gn σ p) n)))) σ := by
  refine ax_m.of F kX3_cartsGone.1 [some (.ref (ad p)), none, none] rfl (Nat.le_of_ble_eq_true rfl) (fun x C => ?_)
  have loop : ∀ (q : Nat) (c : Nat), c ≤ n → n < c + q → ax_S x Y ad 0 0 (ax_Q x Y ad (some (.int (nI (ms_c (hp_gn σ p) n)))) 96 (ax_g Y ad σ) 0 0) σ 4 [some (.ref (ad p)), some (.int (nI (ms_c (hp_gn σ p) c))), some (.int (nI c))] [] := by
    intro q
    induction q with
    | zero => intro c h1 h2; exfalso; omega
    | succ q ih =>
      intro c h1 h2
      refine ax_iload_2 (pc := 4) C dX3_cartsGone_4 ?_
      refine ax_aload_0 (pc := 5) C dX3_cartsGone_5 ?_
      refine ax_getI (pc := 6) C fX3_47 dX3_cartsGone_6 hp.o rfl ?_
      refine ax_icmp_ge (pc := 9) (tgt := 32) C dX3_cartsGone_9 (by decide) (fun h9 => ?_) (fun h9 => ?_)
      · have hcn : ¬ c < n := fun q => nI_ge q (by omega) (by rw [← hn]; exact h9)
        refine ax_iload_1 (pc := 32) C dX3_cartsGone_32 ?_
        exact ax_ir (pc := 33) C rfl dX3_cartsGone_33 (by rw [show c = n by omega]) rfl
      · have hcn : c < n := Nat.lt_of_not_le (fun q => h9 (by rw [hn]; exact nI_le q (by omega)))
        refine ax_aload_0 (pc := 12) C dX3_cartsGone_12 ?_
        refine ax_getR (pc := 13) C fX3_27 dX3_cartsGone_13 hp.o rfl ?_
        refine ax_iload_2 (pc := 16) C dX3_cartsGone_16 ?_
        refine ax_ian (pc := 17) C dX3_cartsGone_17 hp.a6 (by omega) (by omega) ?_
        refine ax_ldc (pc := 18) C dX3_cartsGone_18 qX3_66 ?_
        refine ax_icmp_eq (pc := 20) (tgt := 26) C dX3_cartsGone_20 (by decide) (fun h20 => ?_) (fun h20 => ?_)
        · refine ax_iinc_2 (pc := 26) C dX3_cartsGone_26 (1) (by decide) rfl ?_
          refine ax_goto (pc := 29) (tgt := 4) C dX3_cartsGone_29 (by decide) ?_
          refine ax_Leq ?_ (ih (c + 1) (by omega) (by omega))
          rw [ms_c_s, if_neg (by simp [hp_gn, h20]), nI_1]
          rfl
        · refine ax_iinc_1 (pc := 23) C dX3_cartsGone_23 (1) (by decide) rfl ?_
          refine ax_iinc_2 (pc := 26) C dX3_cartsGone_26 (1) (by decide) rfl ?_
          refine ax_goto (pc := 29) (tgt := 4) C dX3_cartsGone_29 (by decide) ?_
          refine ax_Leq ?_ (ih (c + 1) (by omega) (by omega))
          rw [ms_c_s, if_pos (by simp [hp_gn, h20]), nI_1, nI_1]
  refine ax_iconst (pc := 0) (v := 0) C dX3_cartsGone_0 (by decide) ?_
  refine ax_istore_1 (pc := 1) C dX3_cartsGone_1 rfl ?_
  refine ax_iconst (pc := 2) (v := 0) C dX3_cartsGone_2 (by decide) ?_
  refine ax_istore_2 (pc := 3) C dX3_cartsGone_3 rfl ?_
  exact loop (n + 1) 0 (by omega) (by omega)

set_option maxRecDepth 20000 in
set_option maxHeartbeats 4000000 in
theorem w_X3_paidInAll {Y : ax_Y} {ad : Nat → Nat} (F : ax_F Y) {l : Launch} {σ : ax_Z} {p n : Nat} (hp : ax_isP p) (hn : σ p 10 = nI n) (h7 : n ≤ 7) : ax_m Y ad l iX3_paidInAll 0 σ [.ref (ad p)] (some (.int (hs_sum (σ (p + 7)) n))) σ := by
  refine ax_m.of F kX3_paidInAll.1 [some (.ref (ad p)), none, none] rfl (Nat.le_of_ble_eq_true rfl) (fun x C => ?_)
  have loop : ∀ (q : Nat) (c : Nat), c ≤ n → n < c + q → ax_S x Y ad 0 0 (ax_Q x Y ad (some (.int (hs_sum (σ (p + 7)) n))) 96 (ax_g Y ad σ) 0 0) σ 4 [some (.ref (ad p)), some (.int (hs_sum (σ (p + 7)) c)), some (.int (nI c))] [] := by
    intro q
    induction q with
    | zero => intro c h1 h2; exfalso; omega
    | succ q ih =>
      intro c h1 h2
      refine ax_iload_2 (pc := 4) C dX3_paidInAll_4 ?_
      refine ax_aload_0 (pc := 5) C dX3_paidInAll_5 ?_
      refine ax_getI (pc := 6) C fX3_47 dX3_paidInAll_6 hp.o rfl ?_
      refine ax_icmp_ge (pc := 9) (tgt := 27) C dX3_paidInAll_9 (by decide) (fun h9 => ?_) (fun h9 => ?_)
      · have hcn : ¬ c < n := fun q => nI_ge q (by omega) (by rw [← hn]; exact h9)
        refine ax_iload_1 (pc := 27) C dX3_paidInAll_27 ?_
        exact ax_ir (pc := 28) C rfl dX3_paidInAll_28 (by rw [show c = n by omega]) rfl
      · have hcn : c < n := Nat.lt_of_not_le (fun q => h9 (by rw [hn]; exact nI_le q (by omega)))
        refine ax_iload_1 (pc := 12) C dX3_paidInAll_12 ?_
        refine ax_aload_0 (pc := 13) C dX3_paidInAll_13 ?_
        refine ax_getR (pc := 14) C fX3_30 dX3_paidInAll_14 hp.o rfl ?_
        refine ax_iload_2 (pc := 17) C dX3_paidInAll_17 ?_
        refine ax_ian (pc := 18) C dX3_paidInAll_18 hp.a7 (by omega) (by omega) ?_
        refine ax_iadd (pc := 19) C dX3_paidInAll_19 ?_
        refine ax_istore_1 (pc := 20) C dX3_paidInAll_20 rfl ?_
        refine ax_iinc_2 (pc := 21) C dX3_paidInAll_21 (1) (by decide) rfl ?_
        refine ax_goto (pc := 24) (tgt := 4) C dX3_paidInAll_24 (by decide) ?_
        refine ax_Leq ?_ (ih (c + 1) (by omega) (by omega))
        rw [nI_1]
        rfl
  refine ax_iconst (pc := 0) (v := 0) C dX3_paidInAll_0 (by decide) ?_
  refine ax_istore_1 (pc := 1) C dX3_paidInAll_1 rfl ?_
  refine ax_iconst (pc := 2) (v := 0) C dX3_paidInAll_2 (by decide) ?_
  refine ax_istore_2 (pc := 3) C dX3_paidInAll_3 rfl ?_
  exact loop (n + 1) 0 (by omega) (by omega)

set_option maxRecDepth 20000 in
set_option maxHeartbeats 4000000 in
theorem w_X3_greatestShares {Y : ax_Y} {ad : Nat → Nat} (F : ax_F Y) {l : Launch} {σ : ax_Z} {p n k : Nat} (hp : ax_isP p) (hn0 : 0 < n) (hn : n < 100) (hk : k < 100) : ax_m Y ad l iX3_greatestShares 2 σ [.ref (ad p), .int (nI n), .int (nI k)] (some (.int (hs_gs (hs_toll (σ (p + 1)) n) n k))) σ := by
  have hne : ¬ nI n = 0 := nI_ne0 hn0 (by omega)
  refine ax_m.of F kX3_greatestShares.1 [some (.ref (ad p)), some (.int (nI n)), some (.int (nI k))] rfl (Nat.le_of_ble_eq_true rfl) (fun x C => ?_)
  refine ax_iload_1 (pc := 0) C dX3_greatestShares_0 ?_
  refine ax_iconst (pc := 1) (v := 1) C dX3_greatestShares_1 (by decide) ?_
  refine ax_icmp_ge (pc := 2) (tgt := 7) C dX3_greatestShares_2 (by decide) (fun _ => ?_) (fun z => False.elim (z (nI_le (a := 1) hn0 (by omega))))
  refine ax_iload_2 (pc := 7) C dX3_greatestShares_7 ?_
  refine ax_aload_0 (pc := 8) C dX3_greatestShares_8 ?_
  refine ax_iload_1 (pc := 9) C dX3_greatestShares_9 ?_
  refine ax_callVi (pc := 10) C (w_X3_tollFor F hp (by omega)) kX3_tollFor mX3_102 dX3_greatestShares_10 (by decide) rfl hp.o rfl rfl rfl (Nat.le_of_ble_eq_true rfl) rfl ⟨Nat.le_refl _, Nat.le_refl _⟩ ?_
  refine ax_iload_1 (pc := 13) C dX3_greatestShares_13 ?_
  refine ax_idiv (pc := 14) C dX3_greatestShares_14 (by assumption) ?_
  refine ax_imul (pc := 15) C dX3_greatestShares_15 ?_
  refine ax_iload_2 (pc := 16) C dX3_greatestShares_16 ?_
  refine ax_aload_0 (pc := 17) C dX3_greatestShares_17 ?_
  refine ax_iload_1 (pc := 18) C dX3_greatestShares_18 ?_
  refine ax_callVi (pc := 19) C (w_X3_tollFor F hp (by omega)) kX3_tollFor mX3_102 dX3_greatestShares_19 (by decide) rfl hp.o rfl rfl rfl (Nat.le_of_ble_eq_true rfl) rfl ⟨Nat.le_refl _, Nat.le_refl _⟩ ?_
  refine ax_iload_1 (pc := 22) C dX3_greatestShares_22 ?_
  refine ax_irem (pc := 23) C dX3_greatestShares_23 (by assumption) ?_
  refine ax_min (pc := 24) C (by decide) mi_X3 dX3_greatestShares_24 (Nat.le_of_ble_eq_true rfl) rfl ⟨Nat.le_refl _, Nat.le_refl _⟩ ?_
  refine ax_iadd (pc := 27) C dX3_greatestShares_27 ?_
  exact ax_ir (pc := 28) C rfl dX3_greatestShares_28 rfl rfl

set_option maxRecDepth 20000 in
set_option maxHeartbeats 4000000 in
theorem w_X3_holds {Y : ax_Y} {ad : Nat → Nat} (F : ax_F Y) {l : Launch} {σ : ax_Z} {p n : Nat} (hp : ax_isP p) (hn0 : 1 ≤ n) (hn : n ≤ 6) : ax_m Y ad l iX3_holds 3 σ [.ref (ad p), .int (nI n)] (some (.int (ax_b (hs_all (hs_hold (σ (p + 1)) n) n = true)))) σ := by
  refine ax_m.of F kX3_holds.1 [some (.ref (ad p)), some (.int (nI n)), none] rfl (Nat.le_of_ble_eq_true rfl) (fun x C => ?_)
  have loop : ∀ (q : Nat) (k : Nat), 1 ≤ k → k ≤ n → hs_all (hs_hold (σ (p + 1)) n) k = true → n < k + q → ax_S x Y ad 0 0 (ax_Q x Y ad (some (.int (ax_b (hs_all (hs_hold (σ (p + 1)) n) n = true)))) 96 (ax_g Y ad σ) 0 0) σ 2 [some (.ref (ad p)), some (.int (nI n)), some (.int (nI k))] [] := by
    intro q
    induction q with
    | zero => intro k k1 kn hal hq; exfalso; omega
    | succ q ih =>
      intro k k1 kn hal hq
      refine ax_iload_2 (pc := 2) C dX3_holds_2 ?_
      refine ax_iload_1 (pc := 3) C dX3_holds_3 ?_
      refine ax_icmp_ge (pc := 4) (tgt := 29) C dX3_holds_4 (by decide) (fun h4 => ?_) (fun h4 => ?_)
      · have hkn : ¬ k < n := fun z => nI_ge z (by omega) h4
        refine ax_iconst (pc := 29) (v := 1) C dX3_holds_29 (by decide) ?_
        exact ax_zr (pc := 30) C rfl rfl dX3_holds_30 (ax_b1 (by rw [show n = k by omega]; rw [show n = k by omega] at hal; exact hal)) rfl
      · have hkn : k < n := Nat.lt_of_not_le (fun z => h4 (nI_le z (by omega)))
        refine ax_aload_0 (pc := 7) C dX3_holds_7 ?_
        refine ax_iload_1 (pc := 8) C dX3_holds_8 ?_
        refine ax_iload_2 (pc := 9) C dX3_holds_9 ?_
        refine ax_callVi (pc := 10) C (w_X3_greatestShares F hp hn0 (by omega) (by omega)) kX3_greatestShares mX3_117 dX3_holds_10 (by decide) rfl hp.o rfl rfl rfl (Nat.le_of_ble_eq_true rfl) rfl ⟨Nat.le_refl _, Nat.le_refl _⟩ ?_
        refine ax_aload_0 (pc := 13) C dX3_holds_13 ?_
        refine ax_iload_2 (pc := 14) C dX3_holds_14 ?_
        refine ax_callVi (pc := 15) C (w_X3_tollFor F hp (by omega)) kX3_tollFor mX3_102 dX3_holds_15 (by decide) rfl hp.o rfl rfl rfl (Nat.le_of_ble_eq_true rfl) rfl ⟨Nat.le_refl _, Nat.le_refl _⟩ ?_
        refine ax_icmp_le (pc := 18) (tgt := 23) C dX3_holds_18 (by decide) (fun h18 => ?_) (fun h18 => ?_)
        · refine ax_iinc_2 (pc := 23) C dX3_holds_23 (1) (by decide) rfl ?_
          refine ax_goto (pc := 26) (tgt := 2) C dX3_holds_26 (by decide) ?_
          refine ax_Leq (by rw [nI_1]) (ih (k + 1) (by omega) (by omega) ?_ (by omega))
          rw [hs_all, hal]
          simp [hs_hold, h18]
        · refine ax_iconst (pc := 21) (v := 0) C dX3_holds_21 (by decide) ?_
          exact ax_zr (pc := 22) C rfl rfl dX3_holds_22 (ax_b0 (by rw [hs_all_f hkn (by simp only [hs_hold, h18, decide_false, Bool.or_false, decide_eq_false_iff_not]; omega)]; decide)) rfl
  refine ax_iconst (pc := 0) (v := 1) C dX3_holds_0 (by decide) ?_
  refine ax_istore_2 (pc := 1) C dX3_holds_1 rfl ?_
  exact loop n 1 (by omega) hn0 rfl (by omega)

set_option maxRecDepth 20000 in
set_option maxHeartbeats 4000000 in
theorem w_X3_cheapestSize {Y : ax_Y} {ad : Nat → Nat} (F : ax_F Y) {l : Launch} {σ : ax_Z} {p : Nat} (hp : ax_isP p) : ax_m Y ad l iX3_cheapestSize 2 σ [.ref (ad p)] (some (.int (nI (hs_cs (σ (p + 1)) 6)))) σ := by
  refine ax_m.of F kX3_cheapestSize.1 [some (.ref (ad p)), none, none] rfl (Nat.le_of_ble_eq_true rfl) (fun x C => ?_)
  have loop : ∀ (q : Nat) (m : Nat), 1 ≤ m → m ≤ 6 → 6 < m + q → ax_S x Y ad 0 0 (ax_Q x Y ad (some (.int (nI (hs_cs (σ (p + 1)) 6)))) 96 (ax_g Y ad σ) 0 0) σ 4 [some (.ref (ad p)), some (.int (nI (hs_cs (σ (p + 1)) m))), some (.int (nI (m + 1)))] [] := by
    intro q
    induction q with
    | zero => intro m m1 m2 m3; exfalso; omega
    | succ q ih =>
      intro m m1 m2 m3
      have hcs := hs_cs_in (σ (p + 1)) m
      refine ax_iload_2 (pc := 4) C dX3_cheapestSize_4 ?_
      refine ax_bipush (pc := 5) (v := 6) C dX3_cheapestSize_5 (by decide) ?_
      refine ax_icmp_gt (pc := 7) (tgt := 35) C dX3_cheapestSize_7 (by decide) (fun h7 => ?_) (fun h7 => ?_)
      · have hm6 : ¬ m < 6 := fun z => nI_nlt (a := 6) (b := m + 1) z (by omega) h7
        refine ax_iload_1 (pc := 35) C dX3_cheapestSize_35 ?_
        exact ax_ir (pc := 36) C rfl dX3_cheapestSize_36 (by rw [show m = 6 by omega]) rfl
      · have hm6 : m < 6 := Nat.lt_of_not_le (fun z => h7 (nI_lt (a := 6) (b := m + 1) (by omega) (by omega)))
        refine ax_aload_0 (pc := 10) C dX3_cheapestSize_10 ?_
        refine ax_iload_2 (pc := 11) C dX3_cheapestSize_11 ?_
        refine ax_callVi (pc := 12) C (w_X3_tollFor F hp (by omega)) kX3_tollFor mX3_102 dX3_cheapestSize_12 (by decide) rfl hp.o rfl rfl rfl (Nat.le_of_ble_eq_true rfl) rfl ⟨Nat.le_refl _, Nat.le_refl _⟩ ?_
        refine ax_iload_1 (pc := 15) C dX3_cheapestSize_15 ?_
        refine ax_imul (pc := 16) C dX3_cheapestSize_16 ?_
        refine ax_aload_0 (pc := 17) C dX3_cheapestSize_17 ?_
        refine ax_iload_1 (pc := 18) C dX3_cheapestSize_18 ?_
        refine ax_callVi (pc := 19) C (w_X3_tollFor F hp (by omega)) kX3_tollFor mX3_102 dX3_cheapestSize_19 (by decide) rfl hp.o rfl rfl rfl (Nat.le_of_ble_eq_true rfl) rfl ⟨Nat.le_refl _, Nat.le_refl _⟩ ?_
        refine ax_iload_2 (pc := 22) C dX3_cheapestSize_22 ?_
        refine ax_imul (pc := 23) C dX3_cheapestSize_23 ?_
        refine ax_icmp_ge (pc := 24) (tgt := 29) C dX3_cheapestSize_24 (by decide) (fun h24 => ?_) (fun h24 => ?_)
        · refine ax_iinc_2 (pc := 29) C dX3_cheapestSize_29 (1) (by decide) rfl ?_
          refine ax_goto (pc := 32) (tgt := 4) C dX3_cheapestSize_32 (by decide) ?_
          refine ax_Leq ?_ (ih (m + 1) (by omega) (by omega) (by omega))
          conv => rhs; rw [hs_cs]
          rw [if_neg (by omega), if_neg (Int32.not_lt.mpr h24), nI_1]
        · refine ax_iload_2 (pc := 27) C dX3_cheapestSize_27 ?_
          refine ax_istore_1 (pc := 28) C dX3_cheapestSize_28 rfl ?_
          refine ax_iinc_2 (pc := 29) C dX3_cheapestSize_29 (1) (by decide) rfl ?_
          refine ax_goto (pc := 32) (tgt := 4) C dX3_cheapestSize_32 (by decide) ?_
          refine ax_Leq ?_ (ih (m + 1) (by omega) (by omega) (by omega))
          conv => rhs; rw [hs_cs]
          rw [if_neg (by omega), if_pos (Int32.not_le.mp h24), nI_1]
  refine ax_iconst (pc := 0) (v := 1) C dX3_cheapestSize_0 (by decide) ?_
  refine ax_istore_1 (pc := 1) C dX3_cheapestSize_1 rfl ?_
  refine ax_iconst (pc := 2) (v := 2) C dX3_cheapestSize_2 (by decide) ?_
  refine ax_istore_2 (pc := 3) C dX3_cheapestSize_3 rfl ?_
  exact loop 6 1 (by decide) (by decide) (by decide)

set_option maxRecDepth 20000 in
set_option maxHeartbeats 4000000 in
theorem w_X0_keep {Y : ax_Y} {ad : Nat → Nat} (F : ax_F Y) {l : Launch} {σ : ax_Z} {m : Nat} (hm : σ 25 2 = nI m) (h24 : m ≤ 24) {w b : Int32} : ax_m Y ad l iX0_keep 1 σ [.ref (ad 25), .int w, .int b] none (ac_keep σ m w b) := by
  refine ax_m.of F kX0_keep.1 [some (.ref (ad 25)), some (.int (w)), some (.int (b))] rfl (Nat.le_of_ble_eq_true rfl) (fun x C => ?_)
  by_cases hme : m = 24
  · subst hme
    refine ax_aload_0 (pc := 0) C dX0_keep_0 ?_
    refine ax_getI (pc := 1) C fX0_18 dX0_keep_1 rfl rfl ?_
    refine ax_bipush (pc := 4) (v := 24) C dX0_keep_4 (by decide) ?_
    refine ax_icmp_ne (pc := 6) (tgt := 53) C dX0_keep_6 (by decide) (fun z => False.elim (z (by rw [hm]; rfl))) (fun _ => ?_)
    refine ax_aload_0 (pc := 9) C dX0_keep_9 ?_
    refine ax_dup (pc := 10) C dX0_keep_10 rfl ?_
    refine ax_getI (pc := 11) C fX0_18 dX0_keep_11 rfl rfl ?_
    refine ax_iconst (pc := 14) (v := 1) C dX0_keep_14 (by decide) ?_
    refine ax_isub (pc := 15) C dX0_keep_15 ?_
    refine ax_val C (show _ = nI 23 by rw [hm]; rfl) ?_
    refine ax_putI (pc := 16) C fX0_18 dX0_keep_16 rfl rfl rfl rfl ?_
    refine ax_aload_0 (pc := 19) C dX0_keep_19 ?_
    refine ax_getR (pc := 20) C fX0_9 dX0_keep_20 rfl rfl ?_
    refine ax_iconst (pc := 23) (v := 1) C dX0_keep_23 (by decide) ?_
    refine ax_aload_0 (pc := 24) C dX0_keep_24 ?_
    refine ax_getR (pc := 25) C fX0_9 dX0_keep_25 rfl rfl ?_
    refine ax_iconst (pc := 28) (v := 0) C dX0_keep_28 (by decide) ?_
    refine ax_aload_0 (pc := 29) C dX0_keep_29 ?_
    refine ax_getI (pc := 30) C fX0_18 dX0_keep_30 rfl rfl ?_
    refine ax_copye (pc := 33) C (s := 1) (d := 0) (n := 23) rfl rfl up_s (by decide) ac_X0 dX0_keep_33 rfl rfl (by decide) (by decide) (by decide) (by decide) (Nat.le_of_ble_eq_true rfl) rfl ?_
    refine ax_aload_0 (pc := 36) C dX0_keep_36 ?_
    refine ax_getR (pc := 37) C fX0_15 dX0_keep_37 rfl rfl ?_
    refine ax_iconst (pc := 40) (v := 1) C dX0_keep_40 (by decide) ?_
    refine ax_aload_0 (pc := 41) C dX0_keep_41 ?_
    refine ax_getR (pc := 42) C fX0_15 dX0_keep_42 rfl rfl ?_
    refine ax_iconst (pc := 45) (v := 0) C dX0_keep_45 (by decide) ?_
    refine ax_aload_0 (pc := 46) C dX0_keep_46 ?_
    refine ax_getI (pc := 47) C fX0_18 dX0_keep_47 rfl rfl ?_
    refine ax_copye (pc := 50) C (s := 1) (d := 0) (n := 23) rfl rfl (by simp (disch := omega) only [cp_ne, up_s]) (by decide) ac_X0 dX0_keep_50 rfl rfl (by decide) (by decide) (by decide) (by decide) (Nat.le_of_ble_eq_true rfl) rfl ?_
    refine ax_aload_0 (pc := 53) C dX0_keep_53 ?_
    refine ax_getR (pc := 54) C fX0_9 dX0_keep_54 rfl rfl ?_
    refine ax_aload_0 (pc := 57) C dX0_keep_57 ?_
    refine ax_getI (pc := 58) C fX0_18 dX0_keep_58 rfl rfl ?_
    refine ax_iload_1 (pc := 61) C dX0_keep_61 ?_
    refine ax_ise (pc := 62) (c := 23) C dX0_keep_62 rfl (by simp (disch := omega) only [cp_ne, up_s]) (by decide) (by decide) ?_
    refine ax_aload_0 (pc := 63) C dX0_keep_63 ?_
    refine ax_getR (pc := 64) C fX0_15 dX0_keep_64 rfl rfl ?_
    refine ax_aload_0 (pc := 67) C dX0_keep_67 ?_
    refine ax_getI (pc := 68) C fX0_18 dX0_keep_68 rfl rfl ?_
    refine ax_iload_2 (pc := 71) C dX0_keep_71 ?_
    refine ax_ise (pc := 72) (c := 23) C dX0_keep_72 rfl (by simp (disch := omega) only [cp_ne, up_ne, up_s]) (by decide) (by decide) ?_
    refine ax_aload_0 (pc := 73) C dX0_keep_73 ?_
    refine ax_dup (pc := 74) C dX0_keep_74 rfl ?_
    refine ax_getI (pc := 75) C fX0_18 dX0_keep_75 rfl rfl ?_
    refine ax_iconst (pc := 78) (v := 1) C dX0_keep_78 (by decide) ?_
    refine ax_iadd (pc := 79) C dX0_keep_79 ?_
    refine ax_val C (show _ = nI (23 + 1) by simp (disch := omega) only [cp_ne, up_ne, up_s]; rfl) ?_
    refine ax_putI (pc := 80) C fX0_18 dX0_keep_80 rfl rfl rfl rfl ?_
    exact ax_vr (pc := 83) C rfl dX0_keep_83 rfl
  · have hlt : m < 24 := by omega
    refine ax_aload_0 (pc := 0) C dX0_keep_0 ?_
    refine ax_getI (pc := 1) C fX0_18 dX0_keep_1 rfl rfl ?_
    refine ax_bipush (pc := 4) (v := 24) C dX0_keep_4 (by decide) ?_
    refine ax_icmp_ne (pc := 6) (tgt := 53) C dX0_keep_6 (by decide) (fun _ => ?_) (fun z => False.elim (hme ((nI_eq (by omega) (by omega)).mp (show nI m = nI 24 by rw [← hm]; exact z))))
    refine ax_aload_0 (pc := 53) C dX0_keep_53 ?_
    refine ax_getR (pc := 54) C fX0_9 dX0_keep_54 rfl rfl ?_
    refine ax_aload_0 (pc := 57) C dX0_keep_57 ?_
    refine ax_getI (pc := 58) C fX0_18 dX0_keep_58 rfl rfl ?_
    refine ax_iload_1 (pc := 61) C dX0_keep_61 ?_
    refine ax_ise (pc := 62) (c := m) C dX0_keep_62 rfl hm (by omega) (by decide) ?_
    refine ax_aload_0 (pc := 63) C dX0_keep_63 ?_
    refine ax_getR (pc := 64) C fX0_15 dX0_keep_64 rfl rfl ?_
    refine ax_aload_0 (pc := 67) C dX0_keep_67 ?_
    refine ax_getI (pc := 68) C fX0_18 dX0_keep_68 rfl rfl ?_
    refine ax_iload_2 (pc := 71) C dX0_keep_71 ?_
    refine ax_ise (pc := 72) (c := m) C dX0_keep_72 rfl (by rw [up_ne (by decide)]; exact hm) (by omega) (by decide) ?_
    refine ax_aload_0 (pc := 73) C dX0_keep_73 ?_
    refine ax_dup (pc := 74) C dX0_keep_74 rfl ?_
    refine ax_getI (pc := 75) C fX0_18 dX0_keep_75 rfl rfl ?_
    refine ax_iconst (pc := 78) (v := 1) C dX0_keep_78 (by decide) ?_
    refine ax_iadd (pc := 79) C dX0_keep_79 ?_
    refine ax_val C (show _ = nI (m + 1) by rw [up_ne (by decide), up_ne (by decide), hm, nI_1]) ?_
    refine ax_putI (pc := 80) C fX0_18 dX0_keep_80 rfl rfl rfl rfl ?_
    exact ax_vr (pc := 83) C rfl dX0_keep_83 (by rw [ac_keep, if_neg hme]; rfl)

set_option maxRecDepth 20000 in
set_option maxHeartbeats 4000000 in
theorem w_X5_begin {Y : ax_Y} {ad : Nat → Nat} (F : ax_F Y) {l : Launch} {σ : ax_Z} {c : Nat} (hc : c < 8) {lane n : Int32} : ax_m Y ad l iX5_begin 1 σ [.ref (ad (41 + 2 * c)), .int lane, .int n] none (ro_new σ c lane n) := by
  refine ax_m.of F kX5_begin.1 [some (.ref (ad (41 + 2 * c))), some (.int (lane)), some (.int (n))] rfl (Nat.le_of_ble_eq_true rfl) (fun x C => ?_)
  refine ax_aload_0 (pc := 0) C dX5_begin_0 ?_
  refine ax_getR (pc := 1) C fX5_9 dX5_begin_1 (ax_rowO hc) rfl ?_
  refine ax_iconst (pc := 4) (v := 0) C dX5_begin_4 (by decide) ?_
  refine ax_callSv (pc := 5) C (w_J7_fill_53178 F (ax_rowA hc) (by decide)) kJ7_fill_53178 mX5_15 dX5_begin_5 (by decide) rfl rfl (Nat.le_of_ble_eq_true rfl) rfl ⟨Nat.le_refl _, Nat.le_refl _⟩ ?_
  refine ax_aload_0 (pc := 8) C dX5_begin_8 ?_
  refine ax_iconst (pc := 9) (v := 1) C dX5_begin_9 (by decide) ?_
  refine ax_putI (pc := 10) C fX5_21 dX5_begin_10 (ax_rowO hc) rfl rfl rfl ?_
  refine ax_aload_0 (pc := 13) C dX5_begin_13 ?_
  refine ax_iload_1 (pc := 14) C dX5_begin_14 ?_
  refine ax_putI (pc := 15) C fX5_25 dX5_begin_15 (ax_rowO hc) rfl rfl rfl ?_
  refine ax_aload_0 (pc := 18) C dX5_begin_18 ?_
  refine ax_iload_2 (pc := 19) C dX5_begin_19 ?_
  refine ax_putI (pc := 20) C fX5_29 dX5_begin_20 (ax_rowO hc) rfl rfl rfl ?_
  exact ax_vr (pc := 23) C rfl dX5_begin_23 rfl
