theorem ok_r : ∀ r : Fin 9, ok6 (41 + 2 * r.1) = true := by decide +kernel
theorem ok_i : ∀ r : Fin 3, ok6 (57 + 10 * r.1) = true := by decide +kernel
theorem ok_n : ok6 1 = true ∧ ok6 2 = true ∧ ok6 14 = true ∧ ok6 24 = true ∧ ok6 25 = true ∧ ok6 28 = true ∧ ok6 39 = true := by decide +kernel

set_option maxRecDepth 20000 in
set_option maxHeartbeats 8000000 in
theorem n_X6 {Y : ax_Y} (F : ax_F Y) {l : Launch} : ax_MI Y l iX6_init 3 76 1235 0 77 (.inr (6, [.null, .null, .null, .null, .null, .null, .null, .int 0, .int 0])) := by
  refine ax_MI.of F kX6_init (by decide) (fun x ad0 g hg C => ?_)
  have KE : ∀ ad : Nat → Nat, (∀ k, k < 1 → ad k = ad0 k) → ax_V x Y ad 76 1235 (ax_QQI x Y ad0 0 77 g 76 1235) 77 (g6 Y [.ref (ad 1), .ref (ad 2), .ref (ad 14), .ref (ad 24), .ref (ad 25), .ref (ad 28), .ref (ad 39), .int 0, .int 0] (rwF ad 8) (imF ad 2) ad) 129 [some (.ref (ad 0)), some (.int (nI 2))] [] := by
    intro ad hag
    refine ax_Vw (g' := gB Y ad 0 g) (fun k hk => ?_) (ai_vret (pc := 129) C rfl dX6_init_129 hag (fun k _ => rfl))
    by_cases h0 : k = 0
    · subst h0
      exact Or.inl rfl
    by_cases h1 : k = 1
    · subst h1
      refine Or.inr ⟨Y.2.1 3, _, _, rfl, rfl, ?_⟩
      rw [vp_cell_q, vp_cell_q]
      exact arrV_c (fun j hj => by rw [rwF, if_pos hj])
    by_cases h2 : k = 24
    · subst h2
      refine Or.inr ⟨Y.2.1 4, _, _, rfl, rfl, ?_⟩
      rw [vp_cell_q, vp_cell_q]
      exact arrV_c (fun j hj => by rw [imF, if_pos hj])
    exact Or.inl (g6_n ⟨h0, h1, h2⟩)
  have KI : ∀ (q r : Nat) (ad : Nat → Nat), (∀ k, k < 1 → ad k = ad0 k) → r ≤ 2 → 2 < r + q → ax_V x Y ad (56 + 10 * r) (1077 + 79 * r) (ax_QQI x Y ad0 0 77 g 76 1235) (57 + 10 * r) (g6 Y [.ref (ad 1), .ref (ad 2), .ref (ad 14), .ref (ad 24), .ref (ad 25), .ref (ad 28), .ref (ad 39), .int 0, .int 0] (rwF ad 8) (imF ad r) ad) 105 [some (.ref (ad 0)), some (.int (nI r))] [] := by
    intro q
    induction q with
    | zero => intro r ad _ h1 h2; exfalso; omega
    | succ q ih =>
      intro r ad hag h1 h2
      refine ax_iload_1 (pc := 105) C dX6_init_105 ?_
      refine ax_iconst (pc := 106) (v := 2) C dX6_init_106 (by decide) ?_
      refine ax_icmp_ge (pc := 107) (tgt := 129) C dX6_init_107 (by decide) (fun h107 => ?_) (fun h107 => ?_)
      · have hr : r = 2 := Nat.le_antisymm h1 (Nat.le_of_not_lt (fun z => nI_ge (a := r) (b := 2) z (by decide) h107))
        subst hr
        exact KE ad hag
      · have hr : r < 2 := Nat.lt_of_not_le (fun z => h107 (nI_le (a := 2) z (by omega)))
        refine ax_aload_0 (pc := 110) C dX6_init_110 ?_
        refine ai_getR (pc := 111) (k := 0) C fX6_29 dX6_init_111 (by omega) rfl g6_0 rfl ?_
        refine ax_iload_1 (pc := 114) C dX6_init_114 ?_
        refine ai_new (pc := 115) (fs := d3) C clX3 cn_63 is_3 it_3 df3 dX6_init_115 ⟨by omega, by show 1077 + 79 * r + 12 ≤ 1235; omega⟩ (fun q => ?_)
        have okr : ok6 (57 + 10 * r) = true := ok_i ⟨r, by omega⟩
        have hx : ∀ k, k < 57 + 10 * r → va_up ad (57 + 10 * r) q k = ad k := fun k hk => va_up_ne _ _ (by omega)
        have hq : va_up ad (57 + 10 * r) q (57 + 10 * r) = q := va_up_self _ _ _
        refine ax_Vg (fun k hk => g6_a (ad' := va_up ad (57 + 10 * r) q) okr hx hk) ?_
        generalize va_up ad (57 + 10 * r) q = ad1 at hx hq ⊢
        subst hq
        rw [rwF_c (ad := ad) (ad' := ad1) (fun j hj => hx _ (by omega)), imF_c (ad := ad) (ad' := ad1) (fun j hj => hx _ (by omega)), ← hx 0 (by omega), ← hx 1 (by omega), ← hx 2 (by omega), ← hx 14 (by omega), ← hx 24 (by omega), ← hx 25 (by omega), ← hx 28 (by omega), ← hx 39 (by omega)]
        refine ax_dup (pc := 118) C dX6_init_118 rfl ?_
        refine ai_callI (pc := 119) (p := 57 + 10 * r) C (n_X3 F (ax_imgP hr)) kX3_init im_3 rfl rfl mX6_24 dX6_init_119 (by decide) (va_up_self _ _ _) (Nat.le_of_ble_eq_true rfl) rfl ⟨by omega, by show 1077 + 79 * r + 12 + 67 ≤ 1235; omega⟩ (fun ad2 hy => ?_)
        rw [rwF_c (ad := ad1) (ad' := ad2) (fun j hj => hy _ (by omega)), imF_c (ad := ad1) (ad' := ad2) (fun j hj => hy _ (by omega)), ← hy 0 (by omega), ← hy 1 (by omega), ← hy 2 (by omega), ← hy 14 (by omega), ← hy 24 (by omega), ← hy 25 (by omega), ← hy 28 (by omega), ← hy 39 (by omega), ← hy (57 + 10 * r) (by omega)]
        refine ax_Vg (fun k hk => g6_B (q := 57 + 10 * r + 10) (by omega) (by omega) okr hy hk) ?_
        refine ai_ast (pc := 122) (k := 24) (kv := 57 + 10 * r) (r := r) C dX6_init_122 (by omega) rfl g6_24 (q := (RX3, TX3, 12)) rfl (by omega) rfl (by rw [g6_n (by omega), ax_g_obj (ax_imgP hr).o]) rfl rfl hr (by decide) ?_
        refine ax_Vg (fun k _ => g6_up24) ?_
        rw [imF_s]
        refine ax_iinc_1 (pc := 123) C dX6_init_123 (1) (by decide) rfl ?_
        refine ax_goto (pc := 126) (tgt := 105) C dX6_init_126 (by decide) ?_
        rw [nI_1]
        have e1 : 56 + 10 * r + 1 + 9 = 56 + 10 * (r + 1) := by omega
        have e2 : 1077 + 79 * r + (RX3, TX3, 12).2.2 + 67 = 1077 + 79 * (r + 1) := by show 1077 + 79 * r + 12 + 67 = _; omega
        have e3 : 57 + 10 * r + 10 = 57 + 10 * (r + 1) := by omega
        rw [e1, e2, e3]
        exact ih (r + 1) ad2 (fun k hk => (hy k (by omega)).trans ((hx k (by omega)).trans (hag k hk))) (by omega) (by omega)
  have KR : ∀ (q r : Nat) (ad : Nat → Nat), (∀ k, k < 1 → ad k = ad0 k) → r ≤ 8 → 8 < r + q → ax_V x Y ad (40 + 2 * r) (725 + 44 * r) (ax_QQI x Y ad0 0 77 g 76 1235) (41 + 2 * r) (g6 Y [.ref (ad 1), .ref (ad 2), .ref (ad 14), .ref (ad 24), .ref (ad 25), .ref (ad 28), .ref (ad 39), .int 0, .int 0] (rwF ad r) (fun _ => none) ad) 78 [some (.ref (ad 0)), some (.int (nI r))] [] := by
    intro q
    induction q with
    | zero => intro r ad _ h1 h2; exfalso; omega
    | succ q ih =>
      intro r ad hag h1 h2
      refine ax_iload_1 (pc := 78) C dX6_init_78 ?_
      refine ax_bipush (pc := 79) (v := 8) C dX6_init_79 (by decide) ?_
      refine ax_icmp_ge (pc := 81) (tgt := 103) C dX6_init_81 (by decide) (fun h81 => ?_) (fun h81 => ?_)
      · have hr : r = 8 := Nat.le_antisymm h1 (Nat.le_of_not_lt (fun z => nI_ge (a := r) (b := 8) z (by decide) h81))
        subst hr
        refine ax_iconst (pc := 103) (v := 0) C dX6_init_103 (by decide) ?_
        refine ax_istore_1 (pc := 104) C dX6_init_104 rfl ?_
        exact KI 3 0 ad hag (by decide) (by decide)
      · have hr : r < 8 := Nat.lt_of_not_le (fun z => h81 (nI_le (a := 8) z (by omega)))
        refine ax_aload_0 (pc := 84) C dX6_init_84 ?_
        refine ai_getR (pc := 85) (k := 0) C fX6_11 dX6_init_85 (by omega) rfl g6_0 rfl ?_
        refine ax_iload_1 (pc := 88) C dX6_init_88 ?_
        refine ai_new (pc := 89) (fs := [.null, .int 0, .int 0, .int 0]) C clX5 cn_65 is_5 it_5 df5 dX6_init_89 ⟨by omega, by show 725 + 44 * r + 4 ≤ 1235; omega⟩ (fun q => ?_)
        have okr : ok6 (41 + 2 * r) = true := ok_r ⟨r, by omega⟩
        have hx : ∀ k, k < 41 + 2 * r → va_up ad (41 + 2 * r) q k = ad k := fun k hk => va_up_ne _ _ (by omega)
        have hq : va_up ad (41 + 2 * r) q (41 + 2 * r) = q := va_up_self _ _ _
        refine ax_Vg (fun k hk => g6_a (ad' := va_up ad (41 + 2 * r) q) okr hx hk) ?_
        generalize va_up ad (41 + 2 * r) q = ad1 at hx hq ⊢
        subst hq
        rw [rwF_c (ad := ad) (ad' := ad1) (fun j hj => hx _ (by omega)), ← hx 0 (by omega), ← hx 1 (by omega), ← hx 2 (by omega), ← hx 14 (by omega), ← hx 24 (by omega), ← hx 25 (by omega), ← hx 28 (by omega), ← hx 39 (by omega)]
        refine ax_dup (pc := 92) C dX6_init_92 rfl ?_
        refine ai_callI (pc := 93) (p := 41 + 2 * r) C (n_X5 F hr) kX5_init im_5 rfl rfl mX6_54 dX6_init_93 (by decide) (va_up_self _ _ _) (Nat.le_of_ble_eq_true rfl) rfl ⟨by omega, by show 725 + 44 * r + 4 + 40 ≤ 1235; omega⟩ (fun ad2 hy => ?_)
        rw [rwF_c (ad := ad1) (ad' := ad2) (fun j hj => hy _ (by omega)), ← hy 0 (by omega), ← hy 1 (by omega), ← hy 2 (by omega), ← hy 14 (by omega), ← hy 24 (by omega), ← hy 25 (by omega), ← hy 28 (by omega), ← hy 39 (by omega), ← hy (41 + 2 * r) (by omega)]
        refine ax_Vg (fun k hk => g6_B (q := 41 + 2 * r + 2) (by omega) (by omega) okr hy hk) ?_
        refine ai_ast (pc := 96) (k := 1) (kv := 41 + 2 * r) (r := r) C dX6_init_96 (by omega) rfl g6_1 (q := (RX5, TX5, 4)) rfl (by omega) rfl (by rw [g6_n (by omega), ax_g_obj (ax_rowO' hr)]) rfl rfl hr (by decide) ?_
        refine ax_Vg (fun k _ => g6_up1) ?_
        rw [rwF_s]
        refine ax_iinc_1 (pc := 97) C dX6_init_97 (1) (by decide) rfl ?_
        refine ax_goto (pc := 100) (tgt := 78) C dX6_init_100 (by decide) ?_
        rw [nI_1]
        have e1 : 40 + 2 * r + 1 + 1 = 40 + 2 * (r + 1) := by omega
        have e2 : 725 + 44 * r + (RX5, TX5, 4).2.2 + 40 = 725 + 44 * (r + 1) := by show 725 + 44 * r + 4 + 40 = _; omega
        have e3 : 41 + 2 * r + 2 = 41 + 2 * (r + 1) := by omega
        rw [e1, e2, e3]
        exact ih (r + 1) ad2 (fun k hk => (hy k (by omega)).trans ((hx k (by omega)).trans (hag k hk))) (by omega) (by omega)
  have K7 : ∀ ad : Nat → Nat, (∀ k, k < 1 → ad k = ad0 k) → ax_V x Y ad 40 725 (ax_QQI x Y ad0 0 77 g 76 1235) 41 (g6 Y [.ref (ad 1), .ref (ad 2), .ref (ad 14), .ref (ad 24), .ref (ad 25), .ref (ad 28), .ref (ad 39), .int 0, .int 0] (fun _ => none) (fun _ => none) ad) 76 [some (.ref (ad 0)), none] [] := by
    intro ad hag
    refine ax_iconst (pc := 76) (v := 0) C dX6_init_76 (by decide) ?_
    refine ax_istore_1 (pc := 77) C dX6_init_77 rfl ?_
    exact KR 9 0 ad hag (by decide) (by decide)
  have K6 : ∀ ad : Nat → Nat, (∀ k, k < 1 → ad k = ad0 k) → ax_V x Y ad 38 707 (ax_QQI x Y ad0 0 77 g 76 1235) 39 (g6 Y [.ref (ad 1), .ref (ad 2), .ref (ad 14), .ref (ad 24), .ref (ad 25), .ref (ad 28), .null, .int 0, .int 0] (fun _ => none) (fun _ => none) ad) 65 [some (.ref (ad 0)), none] [] := by
    intro ad hag
    refine ax_aload_0 (pc := 65) C dX6_init_65 ?_
    refine ai_new (pc := 66) (fs := [.null, .int 0]) C clX1 cn_61 is_1 it_1 df1 dX6_init_66 ⟨by decide, by decide⟩ (fun q => ?_)
    have hx : ∀ k, k < 39 → va_up ad 39 q k = ad k := fun k hk => va_up_ne _ _ (by omega)
    have hq : va_up ad 39 q 39 = q := va_up_self _ _ _
    refine ax_Vg (fun k hk => g6_a (ad' := va_up ad 39 q) ok_n.2.2.2.2.2.2 hx hk) ?_
    generalize va_up ad 39 q = ad1 at hx hq ⊢
    subst hq
    rw [← hx 0 (by decide), ← hx 1 (by decide), ← hx 2 (by decide), ← hx 14 (by decide), ← hx 24 (by decide), ← hx 25 (by decide), ← hx 28 (by decide)]
    refine ax_dup (pc := 69) C dX6_init_69 rfl ?_
    refine ai_callI (pc := 70) (p := 39) C (n_X1 F) kX1_init im_1 rfl rfl mX6_49 dX6_init_70 (by decide) (va_up_self _ _ _) (Nat.le_of_ble_eq_true rfl) rfl ⟨by decide, by decide⟩ (fun ad2 h2 => ?_)
    rw [← h2 0 (by decide), ← h2 1 (by decide), ← h2 2 (by decide), ← h2 14 (by decide), ← h2 24 (by decide), ← h2 25 (by decide), ← h2 28 (by decide), ← h2 39 (by decide)]
    refine ax_Vg (fun k hk => g6_B (q := 41) (by decide) (by decide) ok_n.2.2.2.2.2.2 h2 hk) ?_
    refine ai_putF (pc := 73) (k := 0) C fX6_50 dX6_init_73 (by decide) rfl g6_0 rfl (fun q hq => by cases hq; rfl) rfl rfl (Nat.le_of_ble_eq_true rfl) ?_
    refine ax_Vg (fun k _ => g6_up) ?_
    exact K7 ad2 (fun k hk => (h2 k (by omega)).trans ((hx k (by omega)).trans (hag k hk)))
  have K5 : ∀ ad : Nat → Nat, (∀ k, k < 1 → ad k = ad0 k) → ax_V x Y ad 27 627 (ax_QQI x Y ad0 0 77 g 76 1235) 28 (g6 Y [.ref (ad 1), .ref (ad 2), .ref (ad 14), .ref (ad 24), .ref (ad 25), .null, .null, .int 0, .int 0] (fun _ => none) (fun _ => none) ad) 54 [some (.ref (ad 0)), none] [] := by
    intro ad hag
    refine ax_aload_0 (pc := 54) C dX6_init_54 ?_
    refine ai_new (pc := 55) (fs := [.null]) C clX2 cn_62 is_2 it_2 df2 dX6_init_55 ⟨by decide, by decide⟩ (fun q => ?_)
    have hx : ∀ k, k < 28 → va_up ad 28 q k = ad k := fun k hk => va_up_ne _ _ (by omega)
    have hq : va_up ad 28 q 28 = q := va_up_self _ _ _
    refine ax_Vg (fun k hk => g6_a (ad' := va_up ad 28 q) ok_n.2.2.2.2.2.1 hx hk) ?_
    generalize va_up ad 28 q = ad1 at hx hq ⊢
    subst hq
    rw [← hx 0 (by decide), ← hx 1 (by decide), ← hx 2 (by decide), ← hx 14 (by decide), ← hx 24 (by decide), ← hx 25 (by decide)]
    refine ax_dup (pc := 58) C dX6_init_58 rfl ?_
    refine ai_callI (pc := 59) (p := 28) C (n_X2 F) kX2_init im_2 rfl rfl mX6_42 dX6_init_59 (by decide) (va_up_self _ _ _) (Nat.le_of_ble_eq_true rfl) rfl ⟨by decide, by decide⟩ (fun ad2 h2 => ?_)
    rw [← h2 0 (by decide), ← h2 1 (by decide), ← h2 2 (by decide), ← h2 14 (by decide), ← h2 24 (by decide), ← h2 25 (by decide), ← h2 28 (by decide)]
    refine ax_Vg (fun k hk => g6_B (q := 39) (by decide) (by decide) ok_n.2.2.2.2.2.1 h2 hk) ?_
    refine ai_putF (pc := 62) (k := 0) C fX6_43 dX6_init_62 (by decide) rfl g6_0 rfl (fun q hq => by cases hq; rfl) rfl rfl (Nat.le_of_ble_eq_true rfl) ?_
    refine ax_Vg (fun k _ => g6_up) ?_
    exact K6 ad2 (fun k hk => (h2 k (by omega)).trans ((hx k (by omega)).trans (hag k hk)))
  have K4 : ∀ ad : Nat → Nat, (∀ k, k < 1 → ad k = ad0 k) → ax_V x Y ad 24 576 (ax_QQI x Y ad0 0 77 g 76 1235) 25 (g6 Y [.ref (ad 1), .ref (ad 2), .ref (ad 14), .ref (ad 24), .null, .null, .null, .int 0, .int 0] (fun _ => none) (fun _ => none) ad) 43 [some (.ref (ad 0)), none] [] := by
    intro ad hag
    refine ax_aload_0 (pc := 43) C dX6_init_43 ?_
    refine ai_new (pc := 44) (fs := [.null, .null, .int 0]) C clX0 cn_60 is_0 it_0 df0 dX6_init_44 ⟨by decide, by decide⟩ (fun q => ?_)
    have hx : ∀ k, k < 25 → va_up ad 25 q k = ad k := fun k hk => va_up_ne _ _ (by omega)
    have hq : va_up ad 25 q 25 = q := va_up_self _ _ _
    refine ax_Vg (fun k hk => g6_a (ad' := va_up ad 25 q) ok_n.2.2.2.2.1 hx hk) ?_
    generalize va_up ad 25 q = ad1 at hx hq ⊢
    subst hq
    rw [← hx 0 (by decide), ← hx 1 (by decide), ← hx 2 (by decide), ← hx 14 (by decide), ← hx 24 (by decide)]
    refine ax_dup (pc := 47) C dX6_init_47 rfl ?_
    refine ai_callI (pc := 48) (p := 25) C (n_X0 F) kX0_init im_0 rfl rfl mX6_35 dX6_init_48 (by decide) (va_up_self _ _ _) (Nat.le_of_ble_eq_true rfl) rfl ⟨by decide, by decide⟩ (fun ad2 h2 => ?_)
    rw [← h2 0 (by decide), ← h2 1 (by decide), ← h2 2 (by decide), ← h2 14 (by decide), ← h2 24 (by decide), ← h2 25 (by decide)]
    refine ax_Vg (fun k hk => g6_B (q := 28) (by decide) (by decide) ok_n.2.2.2.2.1 h2 hk) ?_
    refine ai_putF (pc := 51) (k := 0) C fX6_36 dX6_init_51 (by decide) rfl g6_0 rfl (fun q hq => by cases hq; rfl) rfl rfl (Nat.le_of_ble_eq_true rfl) ?_
    refine ax_Vg (fun k _ => g6_up) ?_
    exact K5 ad2 (fun k hk => (h2 k (by omega)).trans ((hx k (by omega)).trans (hag k hk)))
  have K3 : ∀ ad : Nat → Nat, (∀ k, k < 1 → ad k = ad0 k) → ax_V x Y ad 23 574 (ax_QQI x Y ad0 0 77 g 76 1235) 24 (g6 Y [.ref (ad 1), .ref (ad 2), .ref (ad 14), .null, .null, .null, .null, .int 0, .int 0] (fun _ => none) (fun _ => none) ad) 35 [some (.ref (ad 0)), none] [] := by
    intro ad hag
    refine ax_aload_0 (pc := 35) C dX6_init_35 ?_
    refine ax_iconst (pc := 36) (v := 2) C dX6_init_36 (by decide) ?_
    refine ai_newQ (pc := 37) (n := 2) (t := 4) (cN := RX3) C rfl (by decide) rfl cn_63 ao_3 dX6_init_37 ⟨by decide, by decide⟩ (fun q => ?_)
    have hx : ∀ k, k < 24 → va_up ad 24 q k = ad k := fun k hk => va_up_ne _ _ (by omega)
    have hq : va_up ad 24 q 24 = q := va_up_self _ _ _
    refine ax_Vg (fun k hk => g6_a (ad' := va_up ad 24 q) ok_n.2.2.2.1 hx hk) ?_
    generalize va_up ad 24 q = ad1 at hx hq ⊢
    subst hq
    rw [← hx 0 (by decide), ← hx 1 (by decide), ← hx 2 (by decide), ← hx 14 (by decide)]
    refine ax_Vg (fun k _ => g6_up24) ?_
    refine ai_putF (pc := 40) (k := 0) C fX6_29 dX6_init_40 (by decide) rfl g6_0 rfl (fun q hq => by cases hq; rfl) rfl rfl (Nat.le_of_ble_eq_true rfl) ?_
    refine ax_Vg (fun k _ => g6_up) ?_
    exact K4 ad1 (fun k hk => (hx k (by omega)).trans (hag k hk))
  have K2 : ∀ ad : Nat → Nat, (∀ k, k < 1 → ad k = ad0 k) → ax_V x Y ad 13 495 (ax_QQI x Y ad0 0 77 g 76 1235) 14 (g6 Y [.ref (ad 1), .ref (ad 2), .null, .null, .null, .null, .null, .int 0, .int 0] (fun _ => none) (fun _ => none) ad) 24 [some (.ref (ad 0)), none] [] := by
    intro ad hag
    refine ax_aload_0 (pc := 24) C dX6_init_24 ?_
    refine ai_new (pc := 25) (fs := d3) C clX3 cn_63 is_3 it_3 df3 dX6_init_25 ⟨by decide, by decide⟩ (fun q => ?_)
    have hx : ∀ k, k < 14 → va_up ad 14 q k = ad k := fun k hk => va_up_ne _ _ (by omega)
    have hq : va_up ad 14 q 14 = q := va_up_self _ _ _
    refine ax_Vg (fun k hk => g6_a (ad' := va_up ad 14 q) ok_n.2.2.1 hx hk) ?_
    generalize va_up ad 14 q = ad1 at hx hq ⊢
    subst hq
    rw [← hx 0 (by decide), ← hx 1 (by decide), ← hx 2 (by decide)]
    refine ax_dup (pc := 28) C dX6_init_28 rfl ?_
    refine ai_callI (pc := 29) (p := 14) C (n_X3 F ax_now) kX3_init im_3 rfl rfl mX6_24 dX6_init_29 (by decide) (va_up_self _ _ _) (Nat.le_of_ble_eq_true rfl) rfl ⟨by decide, by decide⟩ (fun ad2 h2 => ?_)
    rw [← h2 0 (by decide), ← h2 1 (by decide), ← h2 2 (by decide), ← h2 14 (by decide)]
    refine ax_Vg (fun k hk => g6_B (q := 24) (by decide) (by decide) ok_n.2.2.1 h2 hk) ?_
    refine ai_putF (pc := 32) (k := 0) C fX6_25 dX6_init_32 (by decide) rfl g6_0 rfl (fun q hq => by cases hq; rfl) rfl rfl (Nat.le_of_ble_eq_true rfl) ?_
    refine ax_Vg (fun k _ => g6_up) ?_
    exact K3 ad2 (fun k hk => (h2 k (by omega)).trans ((hx k (by omega)).trans (hag k hk)))
  have K1 : ∀ ad : Nat → Nat, (∀ k, k < 1 → ad k = ad0 k) → ax_V x Y ad 1 8 (ax_QQI x Y ad0 0 77 g 76 1235) 2 (g6 Y [.ref (ad 1), .null, .null, .null, .null, .null, .null, .int 0, .int 0] (fun _ => none) (fun _ => none) ad) 13 [some (.ref (ad 0)), none] [] := by
    intro ad hag
    refine ax_aload_0 (pc := 13) C dX6_init_13 ?_
    refine ai_new (pc := 14) (fs := [.null, .int 0, .null, .int 0, .int 0, .int 0, .int 0, .int 0]) C clX4 cn_64 is_4 it_4 df4 dX6_init_14 ⟨by decide, by decide⟩ (fun q => ?_)
    have hx : ∀ k, k < 2 → va_up ad 2 q k = ad k := fun k hk => va_up_ne _ _ (by omega)
    have hq : va_up ad 2 q 2 = q := va_up_self _ _ _
    refine ax_Vg (fun k hk => g6_a (ad' := va_up ad 2 q) ok_n.2.1 hx hk) ?_
    generalize va_up ad 2 q = ad1 at hx hq ⊢
    subst hq
    rw [← hx 0 (by decide), ← hx 1 (by decide)]
    refine ax_dup (pc := 17) C dX6_init_17 rfl ?_
    refine ai_callI (pc := 18) (p := 2) C (n_X4 F) kX4_init im_4 rfl rfl mX6_17 dX6_init_18 (by decide) (va_up_self _ _ _) (Nat.le_of_ble_eq_true rfl) rfl ⟨by decide, by decide⟩ (fun ad2 h2 => ?_)
    rw [← h2 0 (by decide), ← h2 1 (by decide), ← h2 2 (by decide)]
    refine ax_Vg (fun k hk => g6_B (q := 14) (by decide) (by decide) ok_n.2.1 h2 hk) ?_
    refine ai_putF (pc := 21) (k := 0) C fX6_18 dX6_init_21 (by decide) rfl g6_0 rfl (fun q hq => by cases hq; rfl) rfl rfl (Nat.le_of_ble_eq_true rfl) ?_
    refine ax_Vg (fun k _ => g6_up) ?_
    exact K2 ad2 (fun k hk => (h2 k (by omega)).trans ((hx k (by omega)).trans (hag k hk)))
  have K0 : ∀ ad : Nat → Nat, (∀ k, k < 1 → ad k = ad0 k) → ax_V x Y ad 0 0 (ax_QQI x Y ad0 0 77 g 76 1235) 1 (g6 Y [.null, .null, .null, .null, .null, .null, .null, .int 0, .int 0] (fun _ => none) (fun _ => none) ad) 4 [some (.ref (ad 0)), none] [] := by
    intro ad hag
    refine ax_aload_0 (pc := 4) C dX6_init_4 ?_
    refine ax_bipush (pc := 5) (v := 8) C dX6_init_5 (by decide) ?_
    refine ai_newQ (pc := 7) (n := 8) (t := 3) (cN := RX5) C rfl (by decide) rfl cn_65 ao_5 dX6_init_7 ⟨by decide, by decide⟩ (fun q => ?_)
    have hx : ∀ k, k < 1 → va_up ad 1 q k = ad k := fun k hk => va_up_ne _ _ (by omega)
    have hq : va_up ad 1 q 1 = q := va_up_self _ _ _
    refine ax_Vg (fun k hk => g6_a (ad' := va_up ad 1 q) ok_n.1 hx hk) ?_
    generalize va_up ad 1 q = ad1 at hx hq ⊢
    subst hq
    rw [← hx 0 (by decide)]
    refine ax_Vg (fun k _ => g6_up1) ?_
    refine ai_putF (pc := 10) (k := 0) C fX6_11 dX6_init_10 (by decide) rfl g6_0 rfl (fun q hq => by cases hq; rfl) rfl rfl (Nat.le_of_ble_eq_true rfl) ?_
    refine ax_Vg (fun k _ => g6_up) ?_
    exact K1 ad1 (fun k hk => (hx k (by omega)).trans (hag k hk))
  refine ax_VL (L' := [some (.ref (ad0 0)), none]) rfl ?_
  refine ax_aload_0 (pc := 0) C dX6_init_0 ?_
  refine ai_obj (pc := 1) C ob_6 dX6_init_1 (by decide) (by decide) rfl ?_
  refine ax_Vg (fun k hk => ?_) (K0 ad0 (fun _ _ => rfl))
  have e : k = 0 := by omega
  subst e
  exact hg
