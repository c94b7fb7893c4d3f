/-! constructors of rows alone: this is cell p, its rows come behind it -/
def fw (Y : ax_Y) (g : Nat → va_E) (p ci : Nat) (fs : List Value) (ad : Nat → Nat) : Nat → va_E := fun j => if j < p then g j else if j = p then .inr (ci, fs) else ax_g Y ad ax_i0 j
section FW
variable {Y : ax_Y} {g : Nat → va_E} {p ci : Nat} {fs fs' : List Value} {ad ad' : Nat → Nat}
theorem fw_p : fw Y g p ci fs ad p = .inr (ci, fs) := by
  unfold fw
  rw [if_neg (Nat.lt_irrefl p), if_pos rfl]
theorem fw_lt {k : Nat} (h : k < p) : fw Y g p ci fs ad k = g k := if_pos h
theorem fw_gt {k : Nat} (h : p < k) : fw Y g p ci fs ad k = ax_g Y ad ax_i0 k := by
  unfold fw
  rw [if_neg (by omega), if_neg (by omega)]
theorem fw_0 (h : g p = .inr (ci, fs)) {k : Nat} (hk : k < p + 1) : g k = fw Y g p ci fs ad k := by
  by_cases e : k < p
  · rw [fw_lt e]
  · have : k = p := by omega
    subst this
    rw [fw_p, h]
theorem fw_up {k : Nat} : va_up (fw Y g p ci fs ad) p (.inr (ci, fs')) k = fw Y g p ci fs' ad k := by
  by_cases e : k = p
  · subst e
    rw [va_up_self, fw_p]
  · rw [va_up_ne _ _ e]
    unfold fw
    by_cases e2 : k < p
    · rw [if_pos e2, if_pos e2]
    · rw [if_neg e2, if_neg e2, if_neg e, if_neg e]
def shA (k : Nat) : Prop := ∃ t n, t < 3 ∧ ax_sh k = .inl (t, n)
theorem g_A {k : Nat} {σ : ax_Z} (h : shA k) : ax_g Y ad σ k = ax_g Y ad' σ k := by
  obtain ⟨t, n, ht, hs⟩ := h
  rw [ax_g_arr hs ht, ax_g_arr hs ht]
theorem fw_new {N t n : Nat} (hN : p < N) (hs : ax_sh N = .inl (t, n)) (ht : t < 3) (h78 : N ≠ 78) (har : ∀ k, p < k → k < N → shA k) {k : Nat} (hk : k < N + 1) : va_up (fw Y g p ci fs ad) N (.inl (Y.2.1 t, n, .inl (fun _ => 0))) k = fw Y g p ci fs ad' k := by
  by_cases e : k = N
  · subst e
    rw [va_up_self, fw_gt hN, ax_g_arr hs ht, ax_i0_0 h78]
  · rw [va_up_ne _ _ e]
    by_cases e2 : k < p
    · rw [fw_lt e2, fw_lt e2]
    · by_cases e3 : k = p
      · subst e3
        rw [fw_p, fw_p]
      · rw [fw_gt (by omega), fw_gt (by omega)]
        exact g_A (har k (by omega) (by omega))
theorem fw_B {fl : List (Option Nat)} (hs : ax_sh p = .inr (ci, fl)) (hf : fs = ax_fs ad fl (ax_i0 p)) {k : Nat} : fw Y g p ci fs ad k = gB Y ad p g k := by
  unfold gB
  by_cases e : k < p
  · rw [fw_lt e, if_pos e]
  · rw [if_neg e]
    by_cases e2 : k = p
    · subst e2
      rw [fw_p, ax_g_obj hs, hf]
    · rw [fw_gt (by omega)]
end FW
theorem isP_A {p k : Nat} (hp : ax_isP p) (h1 : p < k) (h2 : k < p + 10) : shA k := by
  obtain ⟨t, rfl⟩ : ∃ t, k = p + (t + 1) := ⟨k - p - 1, by omega⟩
  rcases (show t = 0 ∨ t = 1 ∨ t = 2 ∨ t = 3 ∨ t = 4 ∨ t = 5 ∨ t = 6 ∨ t = 7 ∨ t = 8 by omega) with rfl | rfl | rfl | rfl | rfl | rfl | rfl | rfl | rfl
  · exact ⟨_, _, by decide, hp.a1⟩
  · exact ⟨_, _, by decide, hp.a2⟩
  · exact ⟨_, _, by decide, hp.a3⟩
  · exact ⟨_, _, by decide, hp.a4⟩
  · exact ⟨_, _, by decide, hp.a5⟩
  · exact ⟨_, _, by decide, hp.a6⟩
  · exact ⟨_, _, by decide, hp.a7⟩
  · exact ⟨_, _, by decide, hp.a8⟩
  · exact ⟨_, _, by decide, hp.a9⟩
theorem isP_78 {p : Nat} (hp : ax_isP p) : p < 68 := by
  rcases hp with rfl | rfl | rfl | rfl | rfl <;> decide
theorem ax_rowO' {c : Nat} (h : c < 8) : ax_sh (41 + 2 * c) = .inr (5, [some (41 + 2 * c + 1), none, none, none]) := ax_lt8 (P := fun c => ax_sh (41 + 2 * c) = .inr (5, [some (41 + 2 * c + 1), none, none, none])) rfl rfl rfl rfl rfl rfl rfl rfl h
theorem ax_rowA' {c : Nat} (h : c < 8) : ax_sh (41 + 2 * c + 1) = .inl (0, 40) := ax_lt8 (P := fun c => ax_sh (41 + 2 * c + 1) = .inl (0, 40)) rfl rfl rfl rfl rfl rfl rfl rfl h

theorem ar7 {k : Nat} (h1 : 77 < k) (h2 : k < 96) : shA k := by
  rcases (show k = 78 ∨ k = 79 ∨ k = 80 ∨ k = 81 ∨ k = 82 ∨ k = 83 ∨ k = 84 ∨ k = 85 ∨ k = 86 ∨ k = 87 ∨ k = 88 ∨ k = 89 ∨ k = 90 ∨ k = 91 ∨ k = 92 ∨ k = 93 ∨ k = 94 ∨ k = 95 by omega) with rfl | rfl | rfl | rfl | rfl | rfl | rfl | rfl | rfl | rfl | rfl | rfl | rfl | rfl | rfl | rfl | rfl | rfl <;> exact ⟨_, _, by decide, rfl⟩
theorem f8_e : upd (upd (upd (upd (upd (upd (upd (upd (fun _ => (0 : Int32)) 0 (-1)) 1 (-1)) 2 (-1)) 3 (-1)) 4 (-1)) 5 (-1)) 6 (-1)) 7 (-1) = ax_i0 78 := by
  funext b
  by_cases h : b < 8
  · rcases (show b = 0 ∨ b = 1 ∨ b = 2 ∨ b = 3 ∨ b = 4 ∨ b = 5 ∨ b = 6 ∨ b = 7 by omega) with rfl | rfl | rfl | rfl | rfl | rfl | rfl | rfl <;> rfl
  · rw [pk_un (by omega), pk_un (by omega), pk_un (by omega), pk_un (by omega), pk_un (by omega), pk_un (by omega), pk_un (by omega), pk_un (by omega)]
    exact (if_neg (fun z => h z.2)).symm
set_option maxRecDepth 20000 in
set_option maxHeartbeats 4000000 in
theorem n_X3 {Y : ax_Y} (F : ax_F Y) {l : Launch} {p : Nat} (hp : ax_isP p) : ax_MI Y l iX3_init 1 9 67 (p) (p + 10) (.inr (3, [.null, .null, .null, .null, .null, .null, .null, .null, .null, .int 0, .int 0, .int 0])) := by
  refine ax_MI.of F kX3_init (by decide) (fun x ad0 g hg C => ?_)
  have K9 : ∀ ad : Nat → Nat, (∀ k, k < p + 1 → ad k = ad0 k) → ax_V x Y ad 9 67 (ax_QQI x Y ad0 (p) (p + 10) g 9 67) (p + 10) (fw Y g (p) 3 [.ref (ad (p + 1)), .ref (ad (p + 2)), .ref (ad (p + 3)), .ref (ad (p + 4)), .ref (ad (p + 5)), .ref (ad (p + 6)), .ref (ad (p + 7)), .ref (ad (p + 8)), .ref (ad (p + 9)), .int 0, .int 0, .int 0] ad) 76 [some (.ref (ad (p)))] [] := by
    intro ad hag
    exact ai_vret (pc := 76) C rfl dX3_init_76 hag (fun k _ => fw_B hp.o (by rw [ax_i0_0 (by have := isP_78 hp; omega)]; rfl))
  have K8 : ∀ ad : Nat → Nat, (∀ k, k < p + 1 → ad k = ad0 k) → ax_V x Y ad 8 55 (ax_QQI x Y ad0 (p) (p + 10) g 9 67) (p + 9) (fw Y g (p) 3 [.ref (ad (p + 1)), .ref (ad (p + 2)), .ref (ad (p + 3)), .ref (ad (p + 4)), .ref (ad (p + 5)), .ref (ad (p + 6)), .ref (ad (p + 7)), .ref (ad (p + 8)), .null, .int 0, .int 0, .int 0] ad) 68 [some (.ref (ad (p)))] [] := by
    intro ad hag
    refine ax_aload_0 (pc := 68) C dX3_init_68 ?_
    refine ax_bipush (pc := 69) (v := 12) C dX3_init_69 (by decide) ?_
    refine ai_newI (pc := 71) (n := 12) C rfl (by decide) dX3_init_71 ⟨by decide, by decide⟩ (fun q => ?_)
    have hx : ∀ k, k < p + 9 → va_up ad (p + 9) q k = ad k := fun k hk => va_up_ne _ _ (by omega)
    have hq : va_up ad (p + 9) q (p + 9) = q := va_up_self _ _ _
    refine ax_Vg (fun k hk => fw_new (ad' := va_up ad (p + 9) q) (by omega) hp.a9 (by decide) (by have := isP_78 hp; omega) (fun k h1 h2 => isP_A hp h1 (by omega)) hk) ?_
    generalize va_up ad (p + 9) q = ad' at hx hq ⊢
    subst hq
    rw [← hx (p) (by omega), ← hx (p + 1) (by omega), ← hx (p + 2) (by omega), ← hx (p + 3) (by omega), ← hx (p + 4) (by omega), ← hx (p + 5) (by omega), ← hx (p + 6) (by omega), ← hx (p + 7) (by omega), ← hx (p + 8) (by omega)]
    refine ai_putF (pc := 73) (k := p) C fX3_36 dX3_init_73 (by omega) rfl fw_p rfl (fun q hq => by cases hq; rfl) rfl rfl (Nat.le_of_ble_eq_true rfl) ?_
    refine ax_Vg (fun k _ => fw_up) ?_
    exact K9 ad' (fun k hk => (hx k (by omega)).trans (hag k hk))
  have K7 : ∀ ad : Nat → Nat, (∀ k, k < p + 1 → ad k = ad0 k) → ax_V x Y ad 7 48 (ax_QQI x Y ad0 (p) (p + 10) g 9 67) (p + 8) (fw Y g (p) 3 [.ref (ad (p + 1)), .ref (ad (p + 2)), .ref (ad (p + 3)), .ref (ad (p + 4)), .ref (ad (p + 5)), .ref (ad (p + 6)), .ref (ad (p + 7)), .null, .null, .int 0, .int 0, .int 0] ad) 60 [some (.ref (ad (p)))] [] := by
    intro ad hag
    refine ax_aload_0 (pc := 60) C dX3_init_60 ?_
    refine ax_bipush (pc := 61) (v := 7) C dX3_init_61 (by decide) ?_
    refine ai_newI (pc := 63) (n := 7) C rfl (by decide) dX3_init_63 ⟨by decide, by decide⟩ (fun q => ?_)
    have hx : ∀ k, k < p + 8 → va_up ad (p + 8) q k = ad k := fun k hk => va_up_ne _ _ (by omega)
    have hq : va_up ad (p + 8) q (p + 8) = q := va_up_self _ _ _
    refine ax_Vg (fun k hk => fw_new (ad' := va_up ad (p + 8) q) (by omega) hp.a8 (by decide) (by have := isP_78 hp; omega) (fun k h1 h2 => isP_A hp h1 (by omega)) hk) ?_
    generalize va_up ad (p + 8) q = ad' at hx hq ⊢
    subst hq
    rw [← hx (p) (by omega), ← hx (p + 1) (by omega), ← hx (p + 2) (by omega), ← hx (p + 3) (by omega), ← hx (p + 4) (by omega), ← hx (p + 5) (by omega), ← hx (p + 6) (by omega), ← hx (p + 7) (by omega)]
    refine ai_putF (pc := 65) (k := p) C fX3_33 dX3_init_65 (by omega) rfl fw_p rfl (fun q hq => by cases hq; rfl) rfl rfl (Nat.le_of_ble_eq_true rfl) ?_
    refine ax_Vg (fun k _ => fw_up) ?_
    exact K8 ad' (fun k hk => (hx k (by omega)).trans (hag k hk))
  have K6 : ∀ ad : Nat → Nat, (∀ k, k < p + 1 → ad k = ad0 k) → ax_V x Y ad 6 41 (ax_QQI x Y ad0 (p) (p + 10) g 9 67) (p + 7) (fw Y g (p) 3 [.ref (ad (p + 1)), .ref (ad (p + 2)), .ref (ad (p + 3)), .ref (ad (p + 4)), .ref (ad (p + 5)), .ref (ad (p + 6)), .null, .null, .null, .int 0, .int 0, .int 0] ad) 52 [some (.ref (ad (p)))] [] := by
    intro ad hag
    refine ax_aload_0 (pc := 52) C dX3_init_52 ?_
    refine ax_bipush (pc := 53) (v := 7) C dX3_init_53 (by decide) ?_
    refine ai_newI (pc := 55) (n := 7) C rfl (by decide) dX3_init_55 ⟨by decide, by decide⟩ (fun q => ?_)
    have hx : ∀ k, k < p + 7 → va_up ad (p + 7) q k = ad k := fun k hk => va_up_ne _ _ (by omega)
    have hq : va_up ad (p + 7) q (p + 7) = q := va_up_self _ _ _
    refine ax_Vg (fun k hk => fw_new (ad' := va_up ad (p + 7) q) (by omega) hp.a7 (by decide) (by have := isP_78 hp; omega) (fun k h1 h2 => isP_A hp h1 (by omega)) hk) ?_
    generalize va_up ad (p + 7) q = ad' at hx hq ⊢
    subst hq
    rw [← hx (p) (by omega), ← hx (p + 1) (by omega), ← hx (p + 2) (by omega), ← hx (p + 3) (by omega), ← hx (p + 4) (by omega), ← hx (p + 5) (by omega), ← hx (p + 6) (by omega)]
    refine ai_putF (pc := 57) (k := p) C fX3_30 dX3_init_57 (by omega) rfl fw_p rfl (fun q hq => by cases hq; rfl) rfl rfl (Nat.le_of_ble_eq_true rfl) ?_
    refine ax_Vg (fun k _ => fw_up) ?_
    exact K7 ad' (fun k hk => (hx k (by omega)).trans (hag k hk))
  have K5 : ∀ ad : Nat → Nat, (∀ k, k < p + 1 → ad k = ad0 k) → ax_V x Y ad 5 34 (ax_QQI x Y ad0 (p) (p + 10) g 9 67) (p + 6) (fw Y g (p) 3 [.ref (ad (p + 1)), .ref (ad (p + 2)), .ref (ad (p + 3)), .ref (ad (p + 4)), .ref (ad (p + 5)), .null, .null, .null, .null, .int 0, .int 0, .int 0] ad) 44 [some (.ref (ad (p)))] [] := by
    intro ad hag
    refine ax_aload_0 (pc := 44) C dX3_init_44 ?_
    refine ax_bipush (pc := 45) (v := 7) C dX3_init_45 (by decide) ?_
    refine ai_newI (pc := 47) (n := 7) C rfl (by decide) dX3_init_47 ⟨by decide, by decide⟩ (fun q => ?_)
    have hx : ∀ k, k < p + 6 → va_up ad (p + 6) q k = ad k := fun k hk => va_up_ne _ _ (by omega)
    have hq : va_up ad (p + 6) q (p + 6) = q := va_up_self _ _ _
    refine ax_Vg (fun k hk => fw_new (ad' := va_up ad (p + 6) q) (by omega) hp.a6 (by decide) (by have := isP_78 hp; omega) (fun k h1 h2 => isP_A hp h1 (by omega)) hk) ?_
    generalize va_up ad (p + 6) q = ad' at hx hq ⊢
    subst hq
    rw [← hx (p) (by omega), ← hx (p + 1) (by omega), ← hx (p + 2) (by omega), ← hx (p + 3) (by omega), ← hx (p + 4) (by omega), ← hx (p + 5) (by omega)]
    refine ai_putF (pc := 49) (k := p) C fX3_27 dX3_init_49 (by omega) rfl fw_p rfl (fun q hq => by cases hq; rfl) rfl rfl (Nat.le_of_ble_eq_true rfl) ?_
    refine ax_Vg (fun k _ => fw_up) ?_
    exact K6 ad' (fun k hk => (hx k (by omega)).trans (hag k hk))
  have K4 : ∀ ad : Nat → Nat, (∀ k, k < p + 1 → ad k = ad0 k) → ax_V x Y ad 4 27 (ax_QQI x Y ad0 (p) (p + 10) g 9 67) (p + 5) (fw Y g (p) 3 [.ref (ad (p + 1)), .ref (ad (p + 2)), .ref (ad (p + 3)), .ref (ad (p + 4)), .null, .null, .null, .null, .null, .int 0, .int 0, .int 0] ad) 36 [some (.ref (ad (p)))] [] := by
    intro ad hag
    refine ax_aload_0 (pc := 36) C dX3_init_36 ?_
    refine ax_bipush (pc := 37) (v := 7) C dX3_init_37 (by decide) ?_
    refine ai_newI (pc := 39) (n := 7) C rfl (by decide) dX3_init_39 ⟨by decide, by decide⟩ (fun q => ?_)
    have hx : ∀ k, k < p + 5 → va_up ad (p + 5) q k = ad k := fun k hk => va_up_ne _ _ (by omega)
    have hq : va_up ad (p + 5) q (p + 5) = q := va_up_self _ _ _
    refine ax_Vg (fun k hk => fw_new (ad' := va_up ad (p + 5) q) (by omega) hp.a5 (by decide) (by have := isP_78 hp; omega) (fun k h1 h2 => isP_A hp h1 (by omega)) hk) ?_
    generalize va_up ad (p + 5) q = ad' at hx hq ⊢
    subst hq
    rw [← hx (p) (by omega), ← hx (p + 1) (by omega), ← hx (p + 2) (by omega), ← hx (p + 3) (by omega), ← hx (p + 4) (by omega)]
    refine ai_putF (pc := 41) (k := p) C fX3_24 dX3_init_41 (by omega) rfl fw_p rfl (fun q hq => by cases hq; rfl) rfl rfl (Nat.le_of_ble_eq_true rfl) ?_
    refine ax_Vg (fun k _ => fw_up) ?_
    exact K5 ad' (fun k hk => (hx k (by omega)).trans (hag k hk))
  have K3 : ∀ ad : Nat → Nat, (∀ k, k < p + 1 → ad k = ad0 k) → ax_V x Y ad 3 20 (ax_QQI x Y ad0 (p) (p + 10) g 9 67) (p + 4) (fw Y g (p) 3 [.ref (ad (p + 1)), .ref (ad (p + 2)), .ref (ad (p + 3)), .null, .null, .null, .null, .null, .null, .int 0, .int 0, .int 0] ad) 28 [some (.ref (ad (p)))] [] := by
    intro ad hag
    refine ax_aload_0 (pc := 28) C dX3_init_28 ?_
    refine ax_bipush (pc := 29) (v := 7) C dX3_init_29 (by decide) ?_
    refine ai_newI (pc := 31) (n := 7) C rfl (by decide) dX3_init_31 ⟨by decide, by decide⟩ (fun q => ?_)
    have hx : ∀ k, k < p + 4 → va_up ad (p + 4) q k = ad k := fun k hk => va_up_ne _ _ (by omega)
    have hq : va_up ad (p + 4) q (p + 4) = q := va_up_self _ _ _
    refine ax_Vg (fun k hk => fw_new (ad' := va_up ad (p + 4) q) (by omega) hp.a4 (by decide) (by have := isP_78 hp; omega) (fun k h1 h2 => isP_A hp h1 (by omega)) hk) ?_
    generalize va_up ad (p + 4) q = ad' at hx hq ⊢
    subst hq
    rw [← hx (p) (by omega), ← hx (p + 1) (by omega), ← hx (p + 2) (by omega), ← hx (p + 3) (by omega)]
    refine ai_putF (pc := 33) (k := p) C fX3_21 dX3_init_33 (by omega) rfl fw_p rfl (fun q hq => by cases hq; rfl) rfl rfl (Nat.le_of_ble_eq_true rfl) ?_
    refine ax_Vg (fun k _ => fw_up) ?_
    exact K4 ad' (fun k hk => (hx k (by omega)).trans (hag k hk))
  have K2 : ∀ ad : Nat → Nat, (∀ k, k < p + 1 → ad k = ad0 k) → ax_V x Y ad 2 13 (ax_QQI x Y ad0 (p) (p + 10) g 9 67) (p + 3) (fw Y g (p) 3 [.ref (ad (p + 1)), .ref (ad (p + 2)), .null, .null, .null, .null, .null, .null, .null, .int 0, .int 0, .int 0] ad) 20 [some (.ref (ad (p)))] [] := by
    intro ad hag
    refine ax_aload_0 (pc := 20) C dX3_init_20 ?_
    refine ax_bipush (pc := 21) (v := 7) C dX3_init_21 (by decide) ?_
    refine ai_newI (pc := 23) (n := 7) C rfl (by decide) dX3_init_23 ⟨by decide, by decide⟩ (fun q => ?_)
    have hx : ∀ k, k < p + 3 → va_up ad (p + 3) q k = ad k := fun k hk => va_up_ne _ _ (by omega)
    have hq : va_up ad (p + 3) q (p + 3) = q := va_up_self _ _ _
    refine ax_Vg (fun k hk => fw_new (ad' := va_up ad (p + 3) q) (by omega) hp.a3 (by decide) (by have := isP_78 hp; omega) (fun k h1 h2 => isP_A hp h1 (by omega)) hk) ?_
    generalize va_up ad (p + 3) q = ad' at hx hq ⊢
    subst hq
    rw [← hx (p) (by omega), ← hx (p + 1) (by omega), ← hx (p + 2) (by omega)]
    refine ai_putF (pc := 25) (k := p) C fX3_18 dX3_init_25 (by omega) rfl fw_p rfl (fun q hq => by cases hq; rfl) rfl rfl (Nat.le_of_ble_eq_true rfl) ?_
    refine ax_Vg (fun k _ => fw_up) ?_
    exact K3 ad' (fun k hk => (hx k (by omega)).trans (hag k hk))
  have K1 : ∀ ad : Nat → Nat, (∀ k, k < p + 1 → ad k = ad0 k) → ax_V x Y ad 1 6 (ax_QQI x Y ad0 (p) (p + 10) g 9 67) (p + 2) (fw Y g (p) 3 [.ref (ad (p + 1)), .null, .null, .null, .null, .null, .null, .null, .null, .int 0, .int 0, .int 0] ad) 12 [some (.ref (ad (p)))] [] := by
    intro ad hag
    refine ax_aload_0 (pc := 12) C dX3_init_12 ?_
    refine ax_bipush (pc := 13) (v := 7) C dX3_init_13 (by decide) ?_
    refine ai_newI (pc := 15) (n := 7) C rfl (by decide) dX3_init_15 ⟨by decide, by decide⟩ (fun q => ?_)
    have hx : ∀ k, k < p + 2 → va_up ad (p + 2) q k = ad k := fun k hk => va_up_ne _ _ (by omega)
    have hq : va_up ad (p + 2) q (p + 2) = q := va_up_self _ _ _
    refine ax_Vg (fun k hk => fw_new (ad' := va_up ad (p + 2) q) (by omega) hp.a2 (by decide) (by have := isP_78 hp; omega) (fun k h1 h2 => isP_A hp h1 (by omega)) hk) ?_
    generalize va_up ad (p + 2) q = ad' at hx hq ⊢
    subst hq
    rw [← hx (p) (by omega), ← hx (p + 1) (by omega)]
    refine ai_putF (pc := 17) (k := p) C fX3_15 dX3_init_17 (by omega) rfl fw_p rfl (fun q hq => by cases hq; rfl) rfl rfl (Nat.le_of_ble_eq_true rfl) ?_
    refine ax_Vg (fun k _ => fw_up) ?_
    exact K2 ad' (fun k hk => (hx k (by omega)).trans (hag k hk))
  have K0 : ∀ ad : Nat → Nat, (∀ k, k < p + 1 → ad k = ad0 k) → ax_V x Y ad 0 0 (ax_QQI x Y ad0 (p) (p + 10) g 9 67) (p + 1) (fw Y g (p) 3 [.null, .null, .null, .null, .null, .null, .null, .null, .null, .int 0, .int 0, .int 0] ad) 4 [some (.ref (ad (p)))] [] := by
    intro ad hag
    refine ax_aload_0 (pc := 4) C dX3_init_4 ?_
    refine ax_bipush (pc := 5) (v := 6) C dX3_init_5 (by decide) ?_
    refine ai_newI (pc := 7) (n := 6) C rfl (by decide) dX3_init_7 ⟨by decide, by decide⟩ (fun q => ?_)
    have hx : ∀ k, k < p + 1 → va_up ad (p + 1) q k = ad k := fun k hk => va_up_ne _ _ (by omega)
    have hq : va_up ad (p + 1) q (p + 1) = q := va_up_self _ _ _
    refine ax_Vg (fun k hk => fw_new (ad' := va_up ad (p + 1) q) (by omega) hp.a1 (by decide) (by have := isP_78 hp; omega) (fun k h1 h2 => isP_A hp h1 (by omega)) hk) ?_
    generalize va_up ad (p + 1) q = ad' at hx hq ⊢
    subst hq
    rw [← hx (p) (by omega)]
    refine ai_putF (pc := 9) (k := p) C fX3_9 dX3_init_9 (by omega) rfl fw_p rfl (fun q hq => by cases hq; rfl) rfl rfl (Nat.le_of_ble_eq_true rfl) ?_
    refine ax_Vg (fun k _ => fw_up) ?_
    exact K1 ad' (fun k hk => (hx k (by omega)).trans (hag k hk))
  refine ax_VL (L' := [some (.ref (ad0 (p)))]) rfl ?_
  refine ax_aload_0 (pc := 0) C dX3_init_0 ?_
  refine ai_obj (pc := 1) C ob_3 dX3_init_1 (by decide) (by decide) rfl ?_
  exact ax_Vg (fun k hk => fw_0 hg hk) (K0 ad0 (fun _ _ => rfl))

set_option maxRecDepth 20000 in
set_option maxHeartbeats 4000000 in
theorem n_X5 {Y : ax_Y} (F : ax_F Y) {l : Launch} {c : Nat} (hc : c < 8) : ax_MI Y l iX5_init 1 1 40 (41 + 2 * c) (41 + 2 * c + 2) (.inr (5, [.null, .int 0, .int 0, .int 0])) := by
  refine ax_MI.of F kX5_init (by decide) (fun x ad0 g hg C => ?_)
  have K1 : ∀ ad : Nat → Nat, (∀ k, k < 41 + 2 * c + 1 → ad k = ad0 k) → ax_V x Y ad 1 40 (ax_QQI x Y ad0 (41 + 2 * c) (41 + 2 * c + 2) g 1 40) (41 + 2 * c + 2) (fw Y g (41 + 2 * c) 5 [.ref (ad (41 + 2 * c + 1)), .int 0, .int 0, .int 0] ad) 12 [some (.ref (ad (41 + 2 * c)))] [] := by
    intro ad hag
    exact ai_vret (pc := 12) C rfl dX5_init_12 hag (fun k _ => fw_B (ax_rowO' hc) (by rw [ax_i0_0 (by omega)]; rfl))
  have K0 : ∀ ad : Nat → Nat, (∀ k, k < 41 + 2 * c + 1 → ad k = ad0 k) → ax_V x Y ad 0 0 (ax_QQI x Y ad0 (41 + 2 * c) (41 + 2 * c + 2) g 1 40) (41 + 2 * c + 1) (fw Y g (41 + 2 * c) 5 [.null, .int 0, .int 0, .int 0] ad) 4 [some (.ref (ad (41 + 2 * c)))] [] := by
    intro ad hag
    refine ax_aload_0 (pc := 4) C dX5_init_4 ?_
    refine ax_bipush (pc := 5) (v := 40) C dX5_init_5 (by decide) ?_
    refine ai_newI (pc := 7) (n := 40) C rfl (by decide) dX5_init_7 ⟨by decide, by decide⟩ (fun q => ?_)
    have hx : ∀ k, k < 41 + 2 * c + 1 → va_up ad (41 + 2 * c + 1) q k = ad k := fun k hk => va_up_ne _ _ (by omega)
    have hq : va_up ad (41 + 2 * c + 1) q (41 + 2 * c + 1) = q := va_up_self _ _ _
    refine ax_Vg (fun k hk => fw_new (ad' := va_up ad (41 + 2 * c + 1) q) (by omega) (ax_rowA' hc) (by decide) (by omega) (fun k h1 h2 => absurd h2 (by omega)) hk) ?_
    generalize va_up ad (41 + 2 * c + 1) q = ad' at hx hq ⊢
    subst hq
    rw [← hx (41 + 2 * c) (by omega)]
    refine ai_putF (pc := 9) (k := 41 + 2 * c) C fX5_9 dX5_init_9 (by omega) rfl fw_p rfl (fun q hq => by cases hq; rfl) rfl rfl (Nat.le_of_ble_eq_true rfl) ?_
    refine ax_Vg (fun k _ => fw_up) ?_
    exact K1 ad' (fun k hk => (hx k (by omega)).trans (hag k hk))
  refine ax_VL (L' := [some (.ref (ad0 (41 + 2 * c)))]) rfl ?_
  refine ax_aload_0 (pc := 0) C dX5_init_0 ?_
  refine ai_obj (pc := 1) C ob_5 dX5_init_1 (by decide) (by decide) rfl ?_
  exact ax_Vg (fun k hk => fw_0 hg hk) (K0 ad0 (fun _ _ => rfl))

set_option maxRecDepth 20000 in
set_option maxHeartbeats 4000000 in
theorem n_X0 {Y : ax_Y} (F : ax_F Y) {l : Launch}  : ax_MI Y l iX0_init 1 2 48 (25) (25 + 3) (.inr (0, [.null, .null, .int 0])) := by
  refine ax_MI.of F kX0_init (by decide) (fun x ad0 g hg C => ?_)
  have K2 : ∀ ad : Nat → Nat, (∀ k, k < 25 + 1 → ad k = ad0 k) → ax_V x Y ad 2 48 (ax_QQI x Y ad0 (25) (25 + 3) g 2 48) (25 + 3) (fw Y g (25) 0 [.ref (ad (25 + 1)), .ref (ad (25 + 2)), .int 0] ad) 20 [some (.ref (ad (25)))] [] := by
    intro ad hag
    exact ai_vret (pc := 20) C rfl dX0_init_20 hag (fun k _ => fw_B rfl (by rw [ax_i0_0 (by decide)]; rfl))
  have K1 : ∀ ad : Nat → Nat, (∀ k, k < 25 + 1 → ad k = ad0 k) → ax_V x Y ad 1 24 (ax_QQI x Y ad0 (25) (25 + 3) g 2 48) (25 + 2) (fw Y g (25) 0 [.ref (ad (25 + 1)), .null, .int 0] ad) 12 [some (.ref (ad (25)))] [] := by
    intro ad hag
    refine ax_aload_0 (pc := 12) C dX0_init_12 ?_
    refine ax_bipush (pc := 13) (v := 24) C dX0_init_13 (by decide) ?_
    refine ai_newI (pc := 15) (n := 24) C rfl (by decide) dX0_init_15 ⟨by decide, by decide⟩ (fun q => ?_)
    have hx : ∀ k, k < 25 + 2 → va_up ad (25 + 2) q k = ad k := fun k hk => va_up_ne _ _ (by omega)
    have hq : va_up ad (25 + 2) q (25 + 2) = q := va_up_self _ _ _
    refine ax_Vg (fun k hk => fw_new (ad' := va_up ad (25 + 2) q) (by omega) rfl (by decide) (by decide) (fun k h1 h2 => ⟨0, 24, by decide, by rw [show k = 26 by omega]; rfl⟩) hk) ?_
    generalize va_up ad (25 + 2) q = ad' at hx hq ⊢
    subst hq
    rw [← hx (25) (by omega), ← hx (25 + 1) (by omega)]
    refine ai_putF (pc := 17) (k := 25) C fX0_15 dX0_init_17 (by omega) rfl fw_p rfl (fun q hq => by cases hq; rfl) rfl rfl (Nat.le_of_ble_eq_true rfl) ?_
    refine ax_Vg (fun k _ => fw_up) ?_
    exact K2 ad' (fun k hk => (hx k (by omega)).trans (hag k hk))
  have K0 : ∀ ad : Nat → Nat, (∀ k, k < 25 + 1 → ad k = ad0 k) → ax_V x Y ad 0 0 (ax_QQI x Y ad0 (25) (25 + 3) g 2 48) (25 + 1) (fw Y g (25) 0 [.null, .null, .int 0] ad) 4 [some (.ref (ad (25)))] [] := by
    intro ad hag
    refine ax_aload_0 (pc := 4) C dX0_init_4 ?_
    refine ax_bipush (pc := 5) (v := 24) C dX0_init_5 (by decide) ?_
    refine ai_newI (pc := 7) (n := 24) C rfl (by decide) dX0_init_7 ⟨by decide, by decide⟩ (fun q => ?_)
    have hx : ∀ k, k < 25 + 1 → va_up ad (25 + 1) q k = ad k := fun k hk => va_up_ne _ _ (by omega)
    have hq : va_up ad (25 + 1) q (25 + 1) = q := va_up_self _ _ _
    refine ax_Vg (fun k hk => fw_new (ad' := va_up ad (25 + 1) q) (by omega) rfl (by decide) (by decide) (fun k h1 h2 => ⟨0, 24, by decide, by rw [show k = 26 by omega]; rfl⟩) hk) ?_
    generalize va_up ad (25 + 1) q = ad' at hx hq ⊢
    subst hq
    rw [← hx (25) (by omega)]
    refine ai_putF (pc := 9) (k := 25) C fX0_9 dX0_init_9 (by omega) rfl fw_p rfl (fun q hq => by cases hq; rfl) rfl rfl (Nat.le_of_ble_eq_true rfl) ?_
    refine ax_Vg (fun k _ => fw_up) ?_
    exact K1 ad' (fun k hk => (hx k (by omega)).trans (hag k hk))
  refine ax_VL (L' := [some (.ref (ad0 (25)))]) rfl ?_
  refine ax_aload_0 (pc := 0) C dX0_init_0 ?_
  refine ai_obj (pc := 1) C ob_0 dX0_init_1 (by decide) (by decide) rfl ?_
  exact ax_Vg (fun k hk => fw_0 hg hk) (K0 ad0 (fun _ _ => rfl))

set_option maxRecDepth 20000 in
set_option maxHeartbeats 4000000 in
theorem n_X1 {Y : ax_Y} (F : ax_F Y) {l : Launch}  : ax_MI Y l iX1_init 1 1 16 (39) (39 + 2) (.inr (1, [.null, .int 0])) := by
  refine ax_MI.of F kX1_init (by decide) (fun x ad0 g hg C => ?_)
  have K1 : ∀ ad : Nat → Nat, (∀ k, k < 39 + 1 → ad k = ad0 k) → ax_V x Y ad 1 16 (ax_QQI x Y ad0 (39) (39 + 2) g 1 16) (39 + 2) (fw Y g (39) 1 [.ref (ad (39 + 1)), .int 0] ad) 12 [some (.ref (ad (39)))] [] := by
    intro ad hag
    exact ai_vret (pc := 12) C rfl dX1_init_12 hag (fun k _ => fw_B rfl (by rw [ax_i0_0 (by decide)]; rfl))
  have K0 : ∀ ad : Nat → Nat, (∀ k, k < 39 + 1 → ad k = ad0 k) → ax_V x Y ad 0 0 (ax_QQI x Y ad0 (39) (39 + 2) g 1 16) (39 + 1) (fw Y g (39) 1 [.null, .int 0] ad) 4 [some (.ref (ad (39)))] [] := by
    intro ad hag
    refine ax_aload_0 (pc := 4) C dX1_init_4 ?_
    refine ax_bipush (pc := 5) (v := 16) C dX1_init_5 (by decide) ?_
    refine ai_newI (pc := 7) (n := 16) C rfl (by decide) dX1_init_7 ⟨by decide, by decide⟩ (fun q => ?_)
    have hx : ∀ k, k < 39 + 1 → va_up ad (39 + 1) q k = ad k := fun k hk => va_up_ne _ _ (by omega)
    have hq : va_up ad (39 + 1) q (39 + 1) = q := va_up_self _ _ _
    refine ax_Vg (fun k hk => fw_new (ad' := va_up ad (39 + 1) q) (by omega) rfl (by decide) (by decide) (fun k h1 h2 => absurd h2 (by omega)) hk) ?_
    generalize va_up ad (39 + 1) q = ad' at hx hq ⊢
    subst hq
    rw [← hx (39) (by omega)]
    refine ai_putF (pc := 9) (k := 39) C fX1_9 dX1_init_9 (by omega) rfl fw_p rfl (fun q hq => by cases hq; rfl) rfl rfl (Nat.le_of_ble_eq_true rfl) ?_
    refine ax_Vg (fun k _ => fw_up) ?_
    exact K1 ad' (fun k hk => (hx k (by omega)).trans (hag k hk))
  refine ax_VL (L' := [some (.ref (ad0 (39)))]) rfl ?_
  refine ax_aload_0 (pc := 0) C dX1_init_0 ?_
  refine ai_obj (pc := 1) C ob_1 dX1_init_1 (by decide) (by decide) rfl ?_
  exact ax_Vg (fun k hk => fw_0 hg hk) (K0 ad0 (fun _ _ => rfl))

set_option maxRecDepth 20000 in
set_option maxHeartbeats 4000000 in
theorem n_X7 {Y : ax_Y} (F : ax_F Y) {l : Launch}  : ax_MI Y l iX7_init 1 18 2047 (77) (77 + 19) (.inr (7, [.int 0, .int 0, .null, .null, .null, .null, .null, .int 0, .null, .int 0, .null, .int 0, .int 0, .int 0, .int 0, .int 0, .int 0, .int 0, .int 0, .int 0, .int 0, .null, .null, .null, .null, .null, .null, .null, .null, .int 0, .int 0, .null, .null, .null, .int 0])) := by
  refine ax_MI.of F kX7_init (by decide) (fun x ad0 g hg C => ?_)
  have K18 : ∀ ad : Nat → Nat, (∀ k, k < 77 + 1 → ad k = ad0 k) → ax_V x Y ad 18 2047 (ax_QQI x Y ad0 (77) (77 + 19) g 18 2047) (77 + 19) (fw Y g (77) 7 [.int 0, .int 0, .ref (ad (77 + 1)), .ref (ad (77 + 2)), .ref (ad (77 + 3)), .ref (ad (77 + 4)), .ref (ad (77 + 5)), .int 0, .ref (ad (77 + 6)), .int 0, .ref (ad (77 + 7)), .int 0, .int 0, .int 0, .int 0, .int 0, .int 0, .int 0, .int 0, .int 0, .int 0, .ref (ad (77 + 8)), .ref (ad (77 + 9)), .ref (ad (77 + 10)), .ref (ad (77 + 11)), .ref (ad (77 + 12)), .ref (ad (77 + 13)), .ref (ad (77 + 14)), .ref (ad (77 + 15)), .int 0, .int 0, .ref (ad (77 + 16)), .ref (ad (77 + 17)), .ref (ad (77 + 18)), .int 0] ad) 184 [some (.ref (ad (77)))] [] := by
    intro ad hag
    exact ai_vret (pc := 184) C rfl dX7_init_184 hag (fun k _ => fw_B rfl (by rw [ax_i0_0 (by decide)]; rfl))
  have K17 : ∀ ad : Nat → Nat, (∀ k, k < 77 + 1 → ad k = ad0 k) → ax_V x Y ad 17 2031 (ax_QQI x Y ad0 (77) (77 + 19) g 18 2047) (77 + 18) (fw Y g (77) 7 [.int 0, .int 0, .ref (ad (77 + 1)), .ref (ad (77 + 2)), .ref (ad (77 + 3)), .ref (ad (77 + 4)), .ref (ad (77 + 5)), .int 0, .ref (ad (77 + 6)), .int 0, .ref (ad (77 + 7)), .int 0, .int 0, .int 0, .int 0, .int 0, .int 0, .int 0, .int 0, .int 0, .int 0, .ref (ad (77 + 8)), .ref (ad (77 + 9)), .ref (ad (77 + 10)), .ref (ad (77 + 11)), .ref (ad (77 + 12)), .ref (ad (77 + 13)), .ref (ad (77 + 14)), .ref (ad (77 + 15)), .int 0, .int 0, .ref (ad (77 + 16)), .ref (ad (77 + 17)), .null, .int 0] ad) 176 [some (.ref (ad (77)))] [] := by
    intro ad hag
    refine ax_aload_0 (pc := 176) C dX7_init_176 ?_
    refine ax_bipush (pc := 177) (v := 16) C dX7_init_177 (by decide) ?_
    refine ai_newI (pc := 179) (n := 16) C rfl (by decide) dX7_init_179 ⟨by decide, by decide⟩ (fun q => ?_)
    have hx : ∀ k, k < 77 + 18 → va_up ad (77 + 18) q k = ad k := fun k hk => va_up_ne _ _ (by omega)
    have hq : va_up ad (77 + 18) q (77 + 18) = q := va_up_self _ _ _
    refine ax_Vg (fun k hk => fw_new (ad' := va_up ad (77 + 18) q) (by omega) rfl (by decide) (by decide) (fun k h1 h2 => ar7 h1 (by omega)) hk) ?_
    generalize va_up ad (77 + 18) q = ad' at hx hq ⊢
    subst hq
    rw [← hx (77) (by omega), ← hx (77 + 1) (by omega), ← hx (77 + 2) (by omega), ← hx (77 + 3) (by omega), ← hx (77 + 4) (by omega), ← hx (77 + 5) (by omega), ← hx (77 + 6) (by omega), ← hx (77 + 7) (by omega), ← hx (77 + 8) (by omega), ← hx (77 + 9) (by omega), ← hx (77 + 10) (by omega), ← hx (77 + 11) (by omega), ← hx (77 + 12) (by omega), ← hx (77 + 13) (by omega), ← hx (77 + 14) (by omega), ← hx (77 + 15) (by omega), ← hx (77 + 16) (by omega), ← hx (77 + 17) (by omega)]
    refine ai_putF (pc := 181) (k := 77) C fX7_62 dX7_init_181 (by omega) rfl fw_p rfl (fun q hq => by cases hq; rfl) rfl rfl (Nat.le_of_ble_eq_true rfl) ?_
    refine ax_Vg (fun k _ => fw_up) ?_
    exact K18 ad' (fun k hk => (hx k (by omega)).trans (hag k hk))
  have K16 : ∀ ad : Nat → Nat, (∀ k, k < 77 + 1 → ad k = ad0 k) → ax_V x Y ad 16 1943 (ax_QQI x Y ad0 (77) (77 + 19) g 18 2047) (77 + 17) (fw Y g (77) 7 [.int 0, .int 0, .ref (ad (77 + 1)), .ref (ad (77 + 2)), .ref (ad (77 + 3)), .ref (ad (77 + 4)), .ref (ad (77 + 5)), .int 0, .ref (ad (77 + 6)), .int 0, .ref (ad (77 + 7)), .int 0, .int 0, .int 0, .int 0, .int 0, .int 0, .int 0, .int 0, .int 0, .int 0, .ref (ad (77 + 8)), .ref (ad (77 + 9)), .ref (ad (77 + 10)), .ref (ad (77 + 11)), .ref (ad (77 + 12)), .ref (ad (77 + 13)), .ref (ad (77 + 14)), .ref (ad (77 + 15)), .int 0, .int 0, .ref (ad (77 + 16)), .null, .null, .int 0] ad) 168 [some (.ref (ad (77)))] [] := by
    intro ad hag
    refine ax_aload_0 (pc := 168) C dX7_init_168 ?_
    refine ax_bipush (pc := 169) (v := 88) C dX7_init_169 (by decide) ?_
    refine ai_newI (pc := 171) (n := 88) C rfl (by decide) dX7_init_171 ⟨by decide, by decide⟩ (fun q => ?_)
    have hx : ∀ k, k < 77 + 17 → va_up ad (77 + 17) q k = ad k := fun k hk => va_up_ne _ _ (by omega)
    have hq : va_up ad (77 + 17) q (77 + 17) = q := va_up_self _ _ _
    refine ax_Vg (fun k hk => fw_new (ad' := va_up ad (77 + 17) q) (by omega) rfl (by decide) (by decide) (fun k h1 h2 => ar7 h1 (by omega)) hk) ?_
    generalize va_up ad (77 + 17) q = ad' at hx hq ⊢
    subst hq
    rw [← hx (77) (by omega), ← hx (77 + 1) (by omega), ← hx (77 + 2) (by omega), ← hx (77 + 3) (by omega), ← hx (77 + 4) (by omega), ← hx (77 + 5) (by omega), ← hx (77 + 6) (by omega), ← hx (77 + 7) (by omega), ← hx (77 + 8) (by omega), ← hx (77 + 9) (by omega), ← hx (77 + 10) (by omega), ← hx (77 + 11) (by omega), ← hx (77 + 12) (by omega), ← hx (77 + 13) (by omega), ← hx (77 + 14) (by omega), ← hx (77 + 15) (by omega), ← hx (77 + 16) (by omega)]
    refine ai_putF (pc := 173) (k := 77) C fX7_59 dX7_init_173 (by omega) rfl fw_p rfl (fun q hq => by cases hq; rfl) rfl rfl (Nat.le_of_ble_eq_true rfl) ?_
    refine ax_Vg (fun k _ => fw_up) ?_
    exact K17 ad' (fun k hk => (hx k (by omega)).trans (hag k hk))
  have K15 : ∀ ad : Nat → Nat, (∀ k, k < 77 + 1 → ad k = ad0 k) → ax_V x Y ad 15 1941 (ax_QQI x Y ad0 (77) (77 + 19) g 18 2047) (77 + 16) (fw Y g (77) 7 [.int 0, .int 0, .ref (ad (77 + 1)), .ref (ad (77 + 2)), .ref (ad (77 + 3)), .ref (ad (77 + 4)), .ref (ad (77 + 5)), .int 0, .ref (ad (77 + 6)), .int 0, .ref (ad (77 + 7)), .int 0, .int 0, .int 0, .int 0, .int 0, .int 0, .int 0, .int 0, .int 0, .int 0, .ref (ad (77 + 8)), .ref (ad (77 + 9)), .ref (ad (77 + 10)), .ref (ad (77 + 11)), .ref (ad (77 + 12)), .ref (ad (77 + 13)), .ref (ad (77 + 14)), .ref (ad (77 + 15)), .int 0, .int 0, .null, .null, .null, .int 0] ad) 161 [some (.ref (ad (77)))] [] := by
    intro ad hag
    refine ax_aload_0 (pc := 161) C dX7_init_161 ?_
    refine ax_iconst (pc := 162) (v := 2) C dX7_init_162 (by decide) ?_
    refine ai_newZ (pc := 163) (n := 2) C rfl (by decide) dX7_init_163 ⟨by decide, by decide⟩ (fun q => ?_)
    have hx : ∀ k, k < 77 + 16 → va_up ad (77 + 16) q k = ad k := fun k hk => va_up_ne _ _ (by omega)
    have hq : va_up ad (77 + 16) q (77 + 16) = q := va_up_self _ _ _
    refine ax_Vg (fun k hk => fw_new (ad' := va_up ad (77 + 16) q) (by omega) rfl (by decide) (by decide) (fun k h1 h2 => ar7 h1 (by omega)) hk) ?_
    generalize va_up ad (77 + 16) q = ad' at hx hq ⊢
    subst hq
    rw [← hx (77) (by omega), ← hx (77 + 1) (by omega), ← hx (77 + 2) (by omega), ← hx (77 + 3) (by omega), ← hx (77 + 4) (by omega), ← hx (77 + 5) (by omega), ← hx (77 + 6) (by omega), ← hx (77 + 7) (by omega), ← hx (77 + 8) (by omega), ← hx (77 + 9) (by omega), ← hx (77 + 10) (by omega), ← hx (77 + 11) (by omega), ← hx (77 + 12) (by omega), ← hx (77 + 13) (by omega), ← hx (77 + 14) (by omega), ← hx (77 + 15) (by omega)]
    refine ai_putF (pc := 165) (k := 77) C fX7_55 dX7_init_165 (by omega) rfl fw_p rfl (fun q hq => by cases hq; rfl) rfl rfl (Nat.le_of_ble_eq_true rfl) ?_
    refine ax_Vg (fun k _ => fw_up) ?_
    exact K16 ad' (fun k hk => (hx k (by omega)).trans (hag k hk))
  have K14 : ∀ ad : Nat → Nat, (∀ k, k < 77 + 1 → ad k = ad0 k) → ax_V x Y ad 14 1934 (ax_QQI x Y ad0 (77) (77 + 19) g 18 2047) (77 + 15) (fw Y g (77) 7 [.int 0, .int 0, .ref (ad (77 + 1)), .ref (ad (77 + 2)), .ref (ad (77 + 3)), .ref (ad (77 + 4)), .ref (ad (77 + 5)), .int 0, .ref (ad (77 + 6)), .int 0, .ref (ad (77 + 7)), .int 0, .int 0, .int 0, .int 0, .int 0, .int 0, .int 0, .int 0, .int 0, .int 0, .ref (ad (77 + 8)), .ref (ad (77 + 9)), .ref (ad (77 + 10)), .ref (ad (77 + 11)), .ref (ad (77 + 12)), .ref (ad (77 + 13)), .ref (ad (77 + 14)), .null, .int 0, .int 0, .null, .null, .null, .int 0] ad) 153 [some (.ref (ad (77)))] [] := by
    intro ad hag
    refine ax_aload_0 (pc := 153) C dX7_init_153 ?_
    refine ax_bipush (pc := 154) (v := 7) C dX7_init_154 (by decide) ?_
    refine ai_newI (pc := 156) (n := 7) C rfl (by decide) dX7_init_156 ⟨by decide, by decide⟩ (fun q => ?_)
    have hx : ∀ k, k < 77 + 15 → va_up ad (77 + 15) q k = ad k := fun k hk => va_up_ne _ _ (by omega)
    have hq : va_up ad (77 + 15) q (77 + 15) = q := va_up_self _ _ _
    refine ax_Vg (fun k hk => fw_new (ad' := va_up ad (77 + 15) q) (by omega) rfl (by decide) (by decide) (fun k h1 h2 => ar7 h1 (by omega)) hk) ?_
    generalize va_up ad (77 + 15) q = ad' at hx hq ⊢
    subst hq
    rw [← hx (77) (by omega), ← hx (77 + 1) (by omega), ← hx (77 + 2) (by omega), ← hx (77 + 3) (by omega), ← hx (77 + 4) (by omega), ← hx (77 + 5) (by omega), ← hx (77 + 6) (by omega), ← hx (77 + 7) (by omega), ← hx (77 + 8) (by omega), ← hx (77 + 9) (by omega), ← hx (77 + 10) (by omega), ← hx (77 + 11) (by omega), ← hx (77 + 12) (by omega), ← hx (77 + 13) (by omega), ← hx (77 + 14) (by omega)]
    refine ai_putF (pc := 158) (k := 77) C fX7_52 dX7_init_158 (by omega) rfl fw_p rfl (fun q hq => by cases hq; rfl) rfl rfl (Nat.le_of_ble_eq_true rfl) ?_
    refine ax_Vg (fun k _ => fw_up) ?_
    exact K15 ad' (fun k hk => (hx k (by omega)).trans (hag k hk))
  have K13 : ∀ ad : Nat → Nat, (∀ k, k < 77 + 1 → ad k = ad0 k) → ax_V x Y ad 13 1922 (ax_QQI x Y ad0 (77) (77 + 19) g 18 2047) (77 + 14) (fw Y g (77) 7 [.int 0, .int 0, .ref (ad (77 + 1)), .ref (ad (77 + 2)), .ref (ad (77 + 3)), .ref (ad (77 + 4)), .ref (ad (77 + 5)), .int 0, .ref (ad (77 + 6)), .int 0, .ref (ad (77 + 7)), .int 0, .int 0, .int 0, .int 0, .int 0, .int 0, .int 0, .int 0, .int 0, .int 0, .ref (ad (77 + 8)), .ref (ad (77 + 9)), .ref (ad (77 + 10)), .ref (ad (77 + 11)), .ref (ad (77 + 12)), .ref (ad (77 + 13)), .null, .null, .int 0, .int 0, .null, .null, .null, .int 0] ad) 145 [some (.ref (ad (77)))] [] := by
    intro ad hag
    refine ax_aload_0 (pc := 145) C dX7_init_145 ?_
    refine ax_bipush (pc := 146) (v := 12) C dX7_init_146 (by decide) ?_
    refine ai_newI (pc := 148) (n := 12) C rfl (by decide) dX7_init_148 ⟨by decide, by decide⟩ (fun q => ?_)
    have hx : ∀ k, k < 77 + 14 → va_up ad (77 + 14) q k = ad k := fun k hk => va_up_ne _ _ (by omega)
    have hq : va_up ad (77 + 14) q (77 + 14) = q := va_up_self _ _ _
    refine ax_Vg (fun k hk => fw_new (ad' := va_up ad (77 + 14) q) (by omega) rfl (by decide) (by decide) (fun k h1 h2 => ar7 h1 (by omega)) hk) ?_
    generalize va_up ad (77 + 14) q = ad' at hx hq ⊢
    subst hq
    rw [← hx (77) (by omega), ← hx (77 + 1) (by omega), ← hx (77 + 2) (by omega), ← hx (77 + 3) (by omega), ← hx (77 + 4) (by omega), ← hx (77 + 5) (by omega), ← hx (77 + 6) (by omega), ← hx (77 + 7) (by omega), ← hx (77 + 8) (by omega), ← hx (77 + 9) (by omega), ← hx (77 + 10) (by omega), ← hx (77 + 11) (by omega), ← hx (77 + 12) (by omega), ← hx (77 + 13) (by omega)]
    refine ai_putF (pc := 150) (k := 77) C fX7_49 dX7_init_150 (by omega) rfl fw_p rfl (fun q hq => by cases hq; rfl) rfl rfl (Nat.le_of_ble_eq_true rfl) ?_
    refine ax_Vg (fun k _ => fw_up) ?_
    exact K14 ad' (fun k hk => (hx k (by omega)).trans (hag k hk))
  have K12 : ∀ ad : Nat → Nat, (∀ k, k < 77 + 1 → ad k = ad0 k) → ax_V x Y ad 12 1915 (ax_QQI x Y ad0 (77) (77 + 19) g 18 2047) (77 + 13) (fw Y g (77) 7 [.int 0, .int 0, .ref (ad (77 + 1)), .ref (ad (77 + 2)), .ref (ad (77 + 3)), .ref (ad (77 + 4)), .ref (ad (77 + 5)), .int 0, .ref (ad (77 + 6)), .int 0, .ref (ad (77 + 7)), .int 0, .int 0, .int 0, .int 0, .int 0, .int 0, .int 0, .int 0, .int 0, .int 0, .ref (ad (77 + 8)), .ref (ad (77 + 9)), .ref (ad (77 + 10)), .ref (ad (77 + 11)), .ref (ad (77 + 12)), .null, .null, .null, .int 0, .int 0, .null, .null, .null, .int 0] ad) 137 [some (.ref (ad (77)))] [] := by
    intro ad hag
    refine ax_aload_0 (pc := 137) C dX7_init_137 ?_
    refine ax_bipush (pc := 138) (v := 7) C dX7_init_138 (by decide) ?_
    refine ai_newI (pc := 140) (n := 7) C rfl (by decide) dX7_init_140 ⟨by decide, by decide⟩ (fun q => ?_)
    have hx : ∀ k, k < 77 + 13 → va_up ad (77 + 13) q k = ad k := fun k hk => va_up_ne _ _ (by omega)
    have hq : va_up ad (77 + 13) q (77 + 13) = q := va_up_self _ _ _
    refine ax_Vg (fun k hk => fw_new (ad' := va_up ad (77 + 13) q) (by omega) rfl (by decide) (by decide) (fun k h1 h2 => ar7 h1 (by omega)) hk) ?_
    generalize va_up ad (77 + 13) q = ad' at hx hq ⊢
    subst hq
    rw [← hx (77) (by omega), ← hx (77 + 1) (by omega), ← hx (77 + 2) (by omega), ← hx (77 + 3) (by omega), ← hx (77 + 4) (by omega), ← hx (77 + 5) (by omega), ← hx (77 + 6) (by omega), ← hx (77 + 7) (by omega), ← hx (77 + 8) (by omega), ← hx (77 + 9) (by omega), ← hx (77 + 10) (by omega), ← hx (77 + 11) (by omega), ← hx (77 + 12) (by omega)]
    refine ai_putF (pc := 142) (k := 77) C fX7_46 dX7_init_142 (by omega) rfl fw_p rfl (fun q hq => by cases hq; rfl) rfl rfl (Nat.le_of_ble_eq_true rfl) ?_
    refine ax_Vg (fun k _ => fw_up) ?_
    exact K13 ad' (fun k hk => (hx k (by omega)).trans (hag k hk))
  have K11 : ∀ ad : Nat → Nat, (∀ k, k < 77 + 1 → ad k = ad0 k) → ax_V x Y ad 11 1908 (ax_QQI x Y ad0 (77) (77 + 19) g 18 2047) (77 + 12) (fw Y g (77) 7 [.int 0, .int 0, .ref (ad (77 + 1)), .ref (ad (77 + 2)), .ref (ad (77 + 3)), .ref (ad (77 + 4)), .ref (ad (77 + 5)), .int 0, .ref (ad (77 + 6)), .int 0, .ref (ad (77 + 7)), .int 0, .int 0, .int 0, .int 0, .int 0, .int 0, .int 0, .int 0, .int 0, .int 0, .ref (ad (77 + 8)), .ref (ad (77 + 9)), .ref (ad (77 + 10)), .ref (ad (77 + 11)), .null, .null, .null, .null, .int 0, .int 0, .null, .null, .null, .int 0] ad) 129 [some (.ref (ad (77)))] [] := by
    intro ad hag
    refine ax_aload_0 (pc := 129) C dX7_init_129 ?_
    refine ax_bipush (pc := 130) (v := 7) C dX7_init_130 (by decide) ?_
    refine ai_newI (pc := 132) (n := 7) C rfl (by decide) dX7_init_132 ⟨by decide, by decide⟩ (fun q => ?_)
    have hx : ∀ k, k < 77 + 12 → va_up ad (77 + 12) q k = ad k := fun k hk => va_up_ne _ _ (by omega)
    have hq : va_up ad (77 + 12) q (77 + 12) = q := va_up_self _ _ _
    refine ax_Vg (fun k hk => fw_new (ad' := va_up ad (77 + 12) q) (by omega) rfl (by decide) (by decide) (fun k h1 h2 => ar7 h1 (by omega)) hk) ?_
    generalize va_up ad (77 + 12) q = ad' at hx hq ⊢
    subst hq
    rw [← hx (77) (by omega), ← hx (77 + 1) (by omega), ← hx (77 + 2) (by omega), ← hx (77 + 3) (by omega), ← hx (77 + 4) (by omega), ← hx (77 + 5) (by omega), ← hx (77 + 6) (by omega), ← hx (77 + 7) (by omega), ← hx (77 + 8) (by omega), ← hx (77 + 9) (by omega), ← hx (77 + 10) (by omega), ← hx (77 + 11) (by omega)]
    refine ai_putF (pc := 134) (k := 77) C fX7_43 dX7_init_134 (by omega) rfl fw_p rfl (fun q hq => by cases hq; rfl) rfl rfl (Nat.le_of_ble_eq_true rfl) ?_
    refine ax_Vg (fun k _ => fw_up) ?_
    exact K12 ad' (fun k hk => (hx k (by omega)).trans (hag k hk))
  have K10 : ∀ ad : Nat → Nat, (∀ k, k < 77 + 1 → ad k = ad0 k) → ax_V x Y ad 10 1901 (ax_QQI x Y ad0 (77) (77 + 19) g 18 2047) (77 + 11) (fw Y g (77) 7 [.int 0, .int 0, .ref (ad (77 + 1)), .ref (ad (77 + 2)), .ref (ad (77 + 3)), .ref (ad (77 + 4)), .ref (ad (77 + 5)), .int 0, .ref (ad (77 + 6)), .int 0, .ref (ad (77 + 7)), .int 0, .int 0, .int 0, .int 0, .int 0, .int 0, .int 0, .int 0, .int 0, .int 0, .ref (ad (77 + 8)), .ref (ad (77 + 9)), .ref (ad (77 + 10)), .null, .null, .null, .null, .null, .int 0, .int 0, .null, .null, .null, .int 0] ad) 121 [some (.ref (ad (77)))] [] := by
    intro ad hag
    refine ax_aload_0 (pc := 121) C dX7_init_121 ?_
    refine ax_bipush (pc := 122) (v := 7) C dX7_init_122 (by decide) ?_
    refine ai_newI (pc := 124) (n := 7) C rfl (by decide) dX7_init_124 ⟨by decide, by decide⟩ (fun q => ?_)
    have hx : ∀ k, k < 77 + 11 → va_up ad (77 + 11) q k = ad k := fun k hk => va_up_ne _ _ (by omega)
    have hq : va_up ad (77 + 11) q (77 + 11) = q := va_up_self _ _ _
    refine ax_Vg (fun k hk => fw_new (ad' := va_up ad (77 + 11) q) (by omega) rfl (by decide) (by decide) (fun k h1 h2 => ar7 h1 (by omega)) hk) ?_
    generalize va_up ad (77 + 11) q = ad' at hx hq ⊢
    subst hq
    rw [← hx (77) (by omega), ← hx (77 + 1) (by omega), ← hx (77 + 2) (by omega), ← hx (77 + 3) (by omega), ← hx (77 + 4) (by omega), ← hx (77 + 5) (by omega), ← hx (77 + 6) (by omega), ← hx (77 + 7) (by omega), ← hx (77 + 8) (by omega), ← hx (77 + 9) (by omega), ← hx (77 + 10) (by omega)]
    refine ai_putF (pc := 126) (k := 77) C fX7_40 dX7_init_126 (by omega) rfl fw_p rfl (fun q hq => by cases hq; rfl) rfl rfl (Nat.le_of_ble_eq_true rfl) ?_
    refine ax_Vg (fun k _ => fw_up) ?_
    exact K11 ad' (fun k hk => (hx k (by omega)).trans (hag k hk))
  have K9 : ∀ ad : Nat → Nat, (∀ k, k < 77 + 1 → ad k = ad0 k) → ax_V x Y ad 9 1894 (ax_QQI x Y ad0 (77) (77 + 19) g 18 2047) (77 + 10) (fw Y g (77) 7 [.int 0, .int 0, .ref (ad (77 + 1)), .ref (ad (77 + 2)), .ref (ad (77 + 3)), .ref (ad (77 + 4)), .ref (ad (77 + 5)), .int 0, .ref (ad (77 + 6)), .int 0, .ref (ad (77 + 7)), .int 0, .int 0, .int 0, .int 0, .int 0, .int 0, .int 0, .int 0, .int 0, .int 0, .ref (ad (77 + 8)), .ref (ad (77 + 9)), .null, .null, .null, .null, .null, .null, .int 0, .int 0, .null, .null, .null, .int 0] ad) 113 [some (.ref (ad (77)))] [] := by
    intro ad hag
    refine ax_aload_0 (pc := 113) C dX7_init_113 ?_
    refine ax_bipush (pc := 114) (v := 7) C dX7_init_114 (by decide) ?_
    refine ai_newI (pc := 116) (n := 7) C rfl (by decide) dX7_init_116 ⟨by decide, by decide⟩ (fun q => ?_)
    have hx : ∀ k, k < 77 + 10 → va_up ad (77 + 10) q k = ad k := fun k hk => va_up_ne _ _ (by omega)
    have hq : va_up ad (77 + 10) q (77 + 10) = q := va_up_self _ _ _
    refine ax_Vg (fun k hk => fw_new (ad' := va_up ad (77 + 10) q) (by omega) rfl (by decide) (by decide) (fun k h1 h2 => ar7 h1 (by omega)) hk) ?_
    generalize va_up ad (77 + 10) q = ad' at hx hq ⊢
    subst hq
    rw [← hx (77) (by omega), ← hx (77 + 1) (by omega), ← hx (77 + 2) (by omega), ← hx (77 + 3) (by omega), ← hx (77 + 4) (by omega), ← hx (77 + 5) (by omega), ← hx (77 + 6) (by omega), ← hx (77 + 7) (by omega), ← hx (77 + 8) (by omega), ← hx (77 + 9) (by omega)]
    refine ai_putF (pc := 118) (k := 77) C fX7_37 dX7_init_118 (by omega) rfl fw_p rfl (fun q hq => by cases hq; rfl) rfl rfl (Nat.le_of_ble_eq_true rfl) ?_
    refine ax_Vg (fun k _ => fw_up) ?_
    exact K10 ad' (fun k hk => (hx k (by omega)).trans (hag k hk))
  have K8 : ∀ ad : Nat → Nat, (∀ k, k < 77 + 1 → ad k = ad0 k) → ax_V x Y ad 8 1887 (ax_QQI x Y ad0 (77) (77 + 19) g 18 2047) (77 + 9) (fw Y g (77) 7 [.int 0, .int 0, .ref (ad (77 + 1)), .ref (ad (77 + 2)), .ref (ad (77 + 3)), .ref (ad (77 + 4)), .ref (ad (77 + 5)), .int 0, .ref (ad (77 + 6)), .int 0, .ref (ad (77 + 7)), .int 0, .int 0, .int 0, .int 0, .int 0, .int 0, .int 0, .int 0, .int 0, .int 0, .ref (ad (77 + 8)), .null, .null, .null, .null, .null, .null, .null, .int 0, .int 0, .null, .null, .null, .int 0] ad) 105 [some (.ref (ad (77)))] [] := by
    intro ad hag
    refine ax_aload_0 (pc := 105) C dX7_init_105 ?_
    refine ax_bipush (pc := 106) (v := 7) C dX7_init_106 (by decide) ?_
    refine ai_newI (pc := 108) (n := 7) C rfl (by decide) dX7_init_108 ⟨by decide, by decide⟩ (fun q => ?_)
    have hx : ∀ k, k < 77 + 9 → va_up ad (77 + 9) q k = ad k := fun k hk => va_up_ne _ _ (by omega)
    have hq : va_up ad (77 + 9) q (77 + 9) = q := va_up_self _ _ _
    refine ax_Vg (fun k hk => fw_new (ad' := va_up ad (77 + 9) q) (by omega) rfl (by decide) (by decide) (fun k h1 h2 => ar7 h1 (by omega)) hk) ?_
    generalize va_up ad (77 + 9) q = ad' at hx hq ⊢
    subst hq
    rw [← hx (77) (by omega), ← hx (77 + 1) (by omega), ← hx (77 + 2) (by omega), ← hx (77 + 3) (by omega), ← hx (77 + 4) (by omega), ← hx (77 + 5) (by omega), ← hx (77 + 6) (by omega), ← hx (77 + 7) (by omega), ← hx (77 + 8) (by omega)]
    refine ai_putF (pc := 110) (k := 77) C fX7_34 dX7_init_110 (by omega) rfl fw_p rfl (fun q hq => by cases hq; rfl) rfl rfl (Nat.le_of_ble_eq_true rfl) ?_
    refine ax_Vg (fun k _ => fw_up) ?_
    exact K9 ad' (fun k hk => (hx k (by omega)).trans (hag k hk))
  have K7 : ∀ ad : Nat → Nat, (∀ k, k < 77 + 1 → ad k = ad0 k) → ax_V x Y ad 7 1880 (ax_QQI x Y ad0 (77) (77 + 19) g 18 2047) (77 + 8) (fw Y g (77) 7 [.int 0, .int 0, .ref (ad (77 + 1)), .ref (ad (77 + 2)), .ref (ad (77 + 3)), .ref (ad (77 + 4)), .ref (ad (77 + 5)), .int 0, .ref (ad (77 + 6)), .int 0, .ref (ad (77 + 7)), .int 0, .int 0, .int 0, .int 0, .int 0, .int 0, .int 0, .int 0, .int 0, .int 0, .null, .null, .null, .null, .null, .null, .null, .null, .int 0, .int 0, .null, .null, .null, .int 0] ad) 97 [some (.ref (ad (77)))] [] := by
    intro ad hag
    refine ax_aload_0 (pc := 97) C dX7_init_97 ?_
    refine ax_bipush (pc := 98) (v := 7) C dX7_init_98 (by decide) ?_
    refine ai_newI (pc := 100) (n := 7) C rfl (by decide) dX7_init_100 ⟨by decide, by decide⟩ (fun q => ?_)
    have hx : ∀ k, k < 77 + 8 → va_up ad (77 + 8) q k = ad k := fun k hk => va_up_ne _ _ (by omega)
    have hq : va_up ad (77 + 8) q (77 + 8) = q := va_up_self _ _ _
    refine ax_Vg (fun k hk => fw_new (ad' := va_up ad (77 + 8) q) (by omega) rfl (by decide) (by decide) (fun k h1 h2 => ar7 h1 (by omega)) hk) ?_
    generalize va_up ad (77 + 8) q = ad' at hx hq ⊢
    subst hq
    rw [← hx (77) (by omega), ← hx (77 + 1) (by omega), ← hx (77 + 2) (by omega), ← hx (77 + 3) (by omega), ← hx (77 + 4) (by omega), ← hx (77 + 5) (by omega), ← hx (77 + 6) (by omega), ← hx (77 + 7) (by omega)]
    refine ai_putF (pc := 102) (k := 77) C fX7_31 dX7_init_102 (by omega) rfl fw_p rfl (fun q hq => by cases hq; rfl) rfl rfl (Nat.le_of_ble_eq_true rfl) ?_
    refine ax_Vg (fun k _ => fw_up) ?_
    exact K8 ad' (fun k hk => (hx k (by omega)).trans (hag k hk))
  have K6 : ∀ ad : Nat → Nat, (∀ k, k < 77 + 1 → ad k = ad0 k) → ax_V x Y ad 6 1480 (ax_QQI x Y ad0 (77) (77 + 19) g 18 2047) (77 + 7) (fw Y g (77) 7 [.int 0, .int 0, .ref (ad (77 + 1)), .ref (ad (77 + 2)), .ref (ad (77 + 3)), .ref (ad (77 + 4)), .ref (ad (77 + 5)), .int 0, .ref (ad (77 + 6)), .int 0, .null, .int 0, .int 0, .int 0, .int 0, .int 0, .int 0, .int 0, .int 0, .int 0, .int 0, .null, .null, .null, .null, .null, .null, .null, .null, .int 0, .int 0, .null, .null, .null, .int 0] ad) 88 [some (.ref (ad (77)))] [] := by
    intro ad hag
    refine ax_aload_0 (pc := 88) C dX7_init_88 ?_
    refine ax_sipush (pc := 89) (v := 400) C dX7_init_89 (by decide) ?_
    refine ai_newI (pc := 92) (n := 400) C rfl (by decide) dX7_init_92 ⟨by decide, by decide⟩ (fun q => ?_)
    have hx : ∀ k, k < 77 + 7 → va_up ad (77 + 7) q k = ad k := fun k hk => va_up_ne _ _ (by omega)
    have hq : va_up ad (77 + 7) q (77 + 7) = q := va_up_self _ _ _
    refine ax_Vg (fun k hk => fw_new (ad' := va_up ad (77 + 7) q) (by omega) rfl (by decide) (by decide) (fun k h1 h2 => ar7 h1 (by omega)) hk) ?_
    generalize va_up ad (77 + 7) q = ad' at hx hq ⊢
    subst hq
    rw [← hx (77) (by omega), ← hx (77 + 1) (by omega), ← hx (77 + 2) (by omega), ← hx (77 + 3) (by omega), ← hx (77 + 4) (by omega), ← hx (77 + 5) (by omega), ← hx (77 + 6) (by omega)]
    refine ai_putF (pc := 94) (k := 77) C fX7_28 dX7_init_94 (by omega) rfl fw_p rfl (fun q hq => by cases hq; rfl) rfl rfl (Nat.le_of_ble_eq_true rfl) ?_
    refine ax_Vg (fun k _ => fw_up) ?_
    exact K7 ad' (fun k hk => (hx k (by omega)).trans (hag k hk))
  have K5 : ∀ ad : Nat → Nat, (∀ k, k < 77 + 1 → ad k = ad0 k) → ax_V x Y ad 5 424 (ax_QQI x Y ad0 (77) (77 + 19) g 18 2047) (77 + 6) (fw Y g (77) 7 [.int 0, .int 0, .ref (ad (77 + 1)), .ref (ad (77 + 2)), .ref (ad (77 + 3)), .ref (ad (77 + 4)), .ref (ad (77 + 5)), .int 0, .null, .int 0, .null, .int 0, .int 0, .int 0, .int 0, .int 0, .int 0, .int 0, .int 0, .int 0, .int 0, .null, .null, .null, .null, .null, .null, .null, .null, .int 0, .int 0, .null, .null, .null, .int 0] ad) 79 [some (.ref (ad (77)))] [] := by
    intro ad hag
    refine ax_aload_0 (pc := 79) C dX7_init_79 ?_
    refine ax_sipush (pc := 80) (v := 1056) C dX7_init_80 (by decide) ?_
    refine ai_newI (pc := 83) (n := 1056) C rfl (by decide) dX7_init_83 ⟨by decide, by decide⟩ (fun q => ?_)
    have hx : ∀ k, k < 77 + 6 → va_up ad (77 + 6) q k = ad k := fun k hk => va_up_ne _ _ (by omega)
    have hq : va_up ad (77 + 6) q (77 + 6) = q := va_up_self _ _ _
    refine ax_Vg (fun k hk => fw_new (ad' := va_up ad (77 + 6) q) (by omega) rfl (by decide) (by decide) (fun k h1 h2 => ar7 h1 (by omega)) hk) ?_
    generalize va_up ad (77 + 6) q = ad' at hx hq ⊢
    subst hq
    rw [← hx (77) (by omega), ← hx (77 + 1) (by omega), ← hx (77 + 2) (by omega), ← hx (77 + 3) (by omega), ← hx (77 + 4) (by omega), ← hx (77 + 5) (by omega)]
    refine ai_putF (pc := 85) (k := 77) C fX7_25 dX7_init_85 (by omega) rfl fw_p rfl (fun q hq => by cases hq; rfl) rfl rfl (Nat.le_of_ble_eq_true rfl) ?_
    refine ax_Vg (fun k _ => fw_up) ?_
    exact K6 ad' (fun k hk => (hx k (by omega)).trans (hag k hk))
  have K4 : ∀ ad : Nat → Nat, (∀ k, k < 77 + 1 → ad k = ad0 k) → ax_V x Y ad 4 380 (ax_QQI x Y ad0 (77) (77 + 19) g 18 2047) (77 + 5) (fw Y g (77) 7 [.int 0, .int 0, .ref (ad (77 + 1)), .ref (ad (77 + 2)), .ref (ad (77 + 3)), .ref (ad (77 + 4)), .null, .int 0, .null, .int 0, .null, .int 0, .int 0, .int 0, .int 0, .int 0, .int 0, .int 0, .int 0, .int 0, .int 0, .null, .null, .null, .null, .null, .null, .null, .null, .int 0, .int 0, .null, .null, .null, .int 0] ad) 71 [some (.ref (ad (77)))] [] := by
    intro ad hag
    refine ax_aload_0 (pc := 71) C dX7_init_71 ?_
    refine ax_bipush (pc := 72) (v := 44) C dX7_init_72 (by decide) ?_
    refine ai_newI (pc := 74) (n := 44) C rfl (by decide) dX7_init_74 ⟨by decide, by decide⟩ (fun q => ?_)
    have hx : ∀ k, k < 77 + 5 → va_up ad (77 + 5) q k = ad k := fun k hk => va_up_ne _ _ (by omega)
    have hq : va_up ad (77 + 5) q (77 + 5) = q := va_up_self _ _ _
    refine ax_Vg (fun k hk => fw_new (ad' := va_up ad (77 + 5) q) (by omega) rfl (by decide) (by decide) (fun k h1 h2 => ar7 h1 (by omega)) hk) ?_
    generalize va_up ad (77 + 5) q = ad' at hx hq ⊢
    subst hq
    rw [← hx (77) (by omega), ← hx (77 + 1) (by omega), ← hx (77 + 2) (by omega), ← hx (77 + 3) (by omega), ← hx (77 + 4) (by omega)]
    refine ai_putF (pc := 76) (k := 77) C fX7_22 dX7_init_76 (by omega) rfl fw_p rfl (fun q hq => by cases hq; rfl) rfl rfl (Nat.le_of_ble_eq_true rfl) ?_
    refine ax_Vg (fun k _ => fw_up) ?_
    exact K5 ad' (fun k hk => (hx k (by omega)).trans (hag k hk))
  have K3 : ∀ ad : Nat → Nat, (∀ k, k < 77 + 1 → ad k = ad0 k) → ax_V x Y ad 3 336 (ax_QQI x Y ad0 (77) (77 + 19) g 18 2047) (77 + 4) (fw Y g (77) 7 [.int 0, .int 0, .ref (ad (77 + 1)), .ref (ad (77 + 2)), .ref (ad (77 + 3)), .null, .null, .int 0, .null, .int 0, .null, .int 0, .int 0, .int 0, .int 0, .int 0, .int 0, .int 0, .int 0, .int 0, .int 0, .null, .null, .null, .null, .null, .null, .null, .null, .int 0, .int 0, .null, .null, .null, .int 0] ad) 63 [some (.ref (ad (77)))] [] := by
    intro ad hag
    refine ax_aload_0 (pc := 63) C dX7_init_63 ?_
    refine ax_bipush (pc := 64) (v := 44) C dX7_init_64 (by decide) ?_
    refine ai_newI (pc := 66) (n := 44) C rfl (by decide) dX7_init_66 ⟨by decide, by decide⟩ (fun q => ?_)
    have hx : ∀ k, k < 77 + 4 → va_up ad (77 + 4) q k = ad k := fun k hk => va_up_ne _ _ (by omega)
    have hq : va_up ad (77 + 4) q (77 + 4) = q := va_up_self _ _ _
    refine ax_Vg (fun k hk => fw_new (ad' := va_up ad (77 + 4) q) (by omega) rfl (by decide) (by decide) (fun k h1 h2 => ar7 h1 (by omega)) hk) ?_
    generalize va_up ad (77 + 4) q = ad' at hx hq ⊢
    subst hq
    rw [← hx (77) (by omega), ← hx (77 + 1) (by omega), ← hx (77 + 2) (by omega), ← hx (77 + 3) (by omega)]
    refine ai_putF (pc := 68) (k := 77) C fX7_19 dX7_init_68 (by omega) rfl fw_p rfl (fun q hq => by cases hq; rfl) rfl rfl (Nat.le_of_ble_eq_true rfl) ?_
    refine ax_Vg (fun k _ => fw_up) ?_
    exact K4 ad' (fun k hk => (hx k (by omega)).trans (hag k hk))
  have K2 : ∀ ad : Nat → Nat, (∀ k, k < 77 + 1 → ad k = ad0 k) → ax_V x Y ad 2 16 (ax_QQI x Y ad0 (77) (77 + 19) g 18 2047) (77 + 3) (fw Y g (77) 7 [.int 0, .int 0, .ref (ad (77 + 1)), .ref (ad (77 + 2)), .null, .null, .null, .int 0, .null, .int 0, .null, .int 0, .int 0, .int 0, .int 0, .int 0, .int 0, .int 0, .int 0, .int 0, .int 0, .null, .null, .null, .null, .null, .null, .null, .null, .int 0, .int 0, .null, .null, .null, .int 0] ad) 54 [some (.ref (ad (77)))] [] := by
    intro ad hag
    refine ax_aload_0 (pc := 54) C dX7_init_54 ?_
    refine ax_sipush (pc := 55) (v := 320) C dX7_init_55 (by decide) ?_
    refine ai_newI (pc := 58) (n := 320) C rfl (by decide) dX7_init_58 ⟨by decide, by decide⟩ (fun q => ?_)
    have hx : ∀ k, k < 77 + 3 → va_up ad (77 + 3) q k = ad k := fun k hk => va_up_ne _ _ (by omega)
    have hq : va_up ad (77 + 3) q (77 + 3) = q := va_up_self _ _ _
    refine ax_Vg (fun k hk => fw_new (ad' := va_up ad (77 + 3) q) (by omega) rfl (by decide) (by decide) (fun k h1 h2 => ar7 h1 (by omega)) hk) ?_
    generalize va_up ad (77 + 3) q = ad' at hx hq ⊢
    subst hq
    rw [← hx (77) (by omega), ← hx (77 + 1) (by omega), ← hx (77 + 2) (by omega)]
    refine ai_putF (pc := 60) (k := 77) C fX7_16 dX7_init_60 (by omega) rfl fw_p rfl (fun q hq => by cases hq; rfl) rfl rfl (Nat.le_of_ble_eq_true rfl) ?_
    refine ax_Vg (fun k _ => fw_up) ?_
    exact K3 ad' (fun k hk => (hx k (by omega)).trans (hag k hk))
  have K1 : ∀ ad : Nat → Nat, (∀ k, k < 77 + 1 → ad k = ad0 k) → ax_V x Y ad 1 8 (ax_QQI x Y ad0 (77) (77 + 19) g 18 2047) (77 + 2) (fw Y g (77) 7 [.int 0, .int 0, .ref (ad (77 + 1)), .null, .null, .null, .null, .int 0, .null, .int 0, .null, .int 0, .int 0, .int 0, .int 0, .int 0, .int 0, .int 0, .int 0, .int 0, .int 0, .null, .null, .null, .null, .null, .null, .null, .null, .int 0, .int 0, .null, .null, .null, .int 0] ad) 46 [some (.ref (ad (77)))] [] := by
    intro ad hag
    refine ax_aload_0 (pc := 46) C dX7_init_46 ?_
    refine ax_bipush (pc := 47) (v := 8) C dX7_init_47 (by decide) ?_
    refine ai_newI (pc := 49) (n := 8) C rfl (by decide) dX7_init_49 ⟨by decide, by decide⟩ (fun q => ?_)
    have hx : ∀ k, k < 77 + 2 → va_up ad (77 + 2) q k = ad k := fun k hk => va_up_ne _ _ (by omega)
    have hq : va_up ad (77 + 2) q (77 + 2) = q := va_up_self _ _ _
    refine ax_Vg (fun k hk => fw_new (ad' := va_up ad (77 + 2) q) (by omega) rfl (by decide) (by decide) (fun k h1 h2 => ar7 h1 (by omega)) hk) ?_
    generalize va_up ad (77 + 2) q = ad' at hx hq ⊢
    subst hq
    rw [← hx (77) (by omega), ← hx (77 + 1) (by omega)]
    refine ai_putF (pc := 51) (k := 77) C fX7_13 dX7_init_51 (by omega) rfl fw_p rfl (fun q hq => by cases hq; rfl) rfl rfl (Nat.le_of_ble_eq_true rfl) ?_
    refine ax_Vg (fun k _ => fw_up) ?_
    exact K2 ad' (fun k hk => (hx k (by omega)).trans (hag k hk))
  have K0 : ∀ ad : Nat → Nat, (∀ k, k < 77 + 1 → ad k = ad0 k) → ax_V x Y ad 0 0 (ax_QQI x Y ad0 (77) (77 + 19) g 18 2047) (77 + 1) (fw Y g (77) 7 [.int 0, .int 0, .null, .null, .null, .null, .null, .int 0, .null, .int 0, .null, .int 0, .int 0, .int 0, .int 0, .int 0, .int 0, .int 0, .int 0, .int 0, .int 0, .null, .null, .null, .null, .null, .null, .null, .null, .int 0, .int 0, .null, .null, .null, .int 0] ad) 4 [some (.ref (ad (77)))] [] := by
    intro ad hag
    refine ax_aload_0 (pc := 4) C dX7_init_4 ?_
    refine ax_bipush (pc := 5) (v := 8) C dX7_init_5 (by decide) ?_
    refine ai_newI (pc := 7) (n := 8) C rfl (by decide) dX7_init_7 ⟨by decide, by decide⟩ (fun q => ?_)
    have hx : ∀ k, k < 77 + 1 → va_up ad (77 + 1) q k = ad k := fun k hk => va_up_ne _ _ (by omega)
    have hq : va_up ad (77 + 1) q (77 + 1) = q := va_up_self _ _ _
    generalize hAD : va_up ad (77 + 1) q = ad' at hx hq ⊢
    subst hq
    rw [← hx (77) (by omega)]
    refine ax_dup (pc := 9) C dX7_init_9 rfl ?_
    refine ax_iconst (pc := 10) (v := 0) C dX7_init_10 (by decide) ?_
    refine ax_iconst (pc := 11) (v := (-1)) C dX7_init_11 (by decide) ?_
    refine ai_ist (pc := 12) (k := 77 + 1) (r := 0) C dX7_init_12 (by decide) rfl (va_up_self _ _ _) (by decide) (by decide) (by decide) ?_
    refine ax_dup (pc := 13) C dX7_init_13 rfl ?_
    refine ax_iconst (pc := 14) (v := 1) C dX7_init_14 (by decide) ?_
    refine ax_iconst (pc := 15) (v := (-1)) C dX7_init_15 (by decide) ?_
    refine ai_ist (pc := 16) (k := 77 + 1) (r := 1) C dX7_init_16 (by decide) rfl (va_up_self _ _ _) (by decide) (by decide) (by decide) ?_
    refine ax_dup (pc := 17) C dX7_init_17 rfl ?_
    refine ax_iconst (pc := 18) (v := 2) C dX7_init_18 (by decide) ?_
    refine ax_iconst (pc := 19) (v := (-1)) C dX7_init_19 (by decide) ?_
    refine ai_ist (pc := 20) (k := 77 + 1) (r := 2) C dX7_init_20 (by decide) rfl (va_up_self _ _ _) (by decide) (by decide) (by decide) ?_
    refine ax_dup (pc := 21) C dX7_init_21 rfl ?_
    refine ax_iconst (pc := 22) (v := 3) C dX7_init_22 (by decide) ?_
    refine ax_iconst (pc := 23) (v := (-1)) C dX7_init_23 (by decide) ?_
    refine ai_ist (pc := 24) (k := 77 + 1) (r := 3) C dX7_init_24 (by decide) rfl (va_up_self _ _ _) (by decide) (by decide) (by decide) ?_
    refine ax_dup (pc := 25) C dX7_init_25 rfl ?_
    refine ax_iconst (pc := 26) (v := 4) C dX7_init_26 (by decide) ?_
    refine ax_iconst (pc := 27) (v := (-1)) C dX7_init_27 (by decide) ?_
    refine ai_ist (pc := 28) (k := 77 + 1) (r := 4) C dX7_init_28 (by decide) rfl (va_up_self _ _ _) (by decide) (by decide) (by decide) ?_
    refine ax_dup (pc := 29) C dX7_init_29 rfl ?_
    refine ax_iconst (pc := 30) (v := 5) C dX7_init_30 (by decide) ?_
    refine ax_iconst (pc := 31) (v := (-1)) C dX7_init_31 (by decide) ?_
    refine ai_ist (pc := 32) (k := 77 + 1) (r := 5) C dX7_init_32 (by decide) rfl (va_up_self _ _ _) (by decide) (by decide) (by decide) ?_
    refine ax_dup (pc := 33) C dX7_init_33 rfl ?_
    refine ax_bipush (pc := 34) (v := 6) C dX7_init_34 (by decide) ?_
    refine ax_iconst (pc := 36) (v := (-1)) C dX7_init_36 (by decide) ?_
    refine ai_ist (pc := 37) (k := 77 + 1) (r := 6) C dX7_init_37 (by decide) rfl (va_up_self _ _ _) (by decide) (by decide) (by decide) ?_
    refine ax_dup (pc := 38) C dX7_init_38 rfl ?_
    refine ax_bipush (pc := 39) (v := 7) C dX7_init_39 (by decide) ?_
    refine ax_iconst (pc := 41) (v := (-1)) C dX7_init_41 (by decide) ?_
    refine ai_ist (pc := 42) (k := 77 + 1) (r := 7) C dX7_init_42 (by decide) rfl (va_up_self _ _ _) (by decide) (by decide) (by decide) ?_
    refine ax_Vg (g' := (fw Y g (77) 7 [.int 0, .int 0, .null, .null, .null, .null, .null, .int 0, .null, .int 0, .null, .int 0, .int 0, .int 0, .int 0, .int 0, .int 0, .int 0, .int 0, .int 0, .int 0, .null, .null, .null, .null, .null, .null, .null, .null, .int 0, .int 0, .null, .null, .null, .int 0] ad')) (fun k hk => by
      by_cases e : k = 77 + 1
      · subst e
        rw [va_up_self, fw_gt (by decide), ax_g_arr (t := 0) (n := 8) rfl (by decide)]
        exact congrArg (fun f => (Sum.inl (Y.2.1 0, 8, Sum.inl f) : va_E)) f8_e
      · rw [va_up_ne _ _ e, va_up_ne _ _ e, va_up_ne _ _ e, va_up_ne _ _ e, va_up_ne _ _ e, va_up_ne _ _ e, va_up_ne _ _ e, va_up_ne _ _ e, va_up_ne _ _ e]
        by_cases e2 : k < 77
        · rw [fw_lt e2, fw_lt e2]
        · have e3 : k = 77 := by omega
          subst e3
          rw [fw_p, fw_p]) ?_
    refine ai_putF (pc := 43) (k := 77) C fX7_7 dX7_init_43 (by omega) rfl fw_p rfl (fun q hq => by cases hq; rfl) rfl rfl (Nat.le_of_ble_eq_true rfl) ?_
    refine ax_Vg (fun k _ => fw_up) ?_
    exact K1 ad' (fun k hk => (hx k (by omega)).trans (hag k hk))
  refine ax_VL (L' := [some (.ref (ad0 (77)))]) rfl ?_
  refine ax_aload_0 (pc := 0) C dX7_init_0 ?_
  refine ai_obj (pc := 1) C ob_7 dX7_init_1 (by decide) (by decide) rfl ?_
  exact ax_Vg (fun k hk => fw_0 hg hk) (K0 ad0 (fun _ _ => rfl))
