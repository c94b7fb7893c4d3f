/-- the carts laid aside so far -/
def ly_S (σ : ax_Z) (n m : Nat) : ax_Z := fun a b => if 85 ≤ a ∧ a ≤ 90 ∧ b < m then σ 81 (8 + 6 * b + (a - 85)) else ax_up (ax_up σ 77 20 (nI n)) 77 29 0 a b
theorem ly_0 {σ : ax_Z} {n : Nat} : ly_S σ n 0 = ax_up (ax_up σ 77 20 (nI n)) 77 29 0 := by
  funext a b
  unfold ly_S
  rw [if_neg (by omega)]
theorem ly_s {σ : ax_Z} {n m : Nat} : ax_up (ax_up (ax_up (ax_up (ax_up (ax_up (ly_S σ n m) 85 m (σ 81 (8 + 6 * m + 0))) 86 m (σ 81 (8 + 6 * m + 1))) 87 m (σ 81 (8 + 6 * m + 2))) 88 m (σ 81 (8 + 6 * m + 3))) 89 m (σ 81 (8 + 6 * m + 4))) 90 m (σ 81 (8 + 6 * m + 5)) = ly_S σ n (m + 1) := by
  funext a b
  by_cases hb : b = m
  · subst hb
    rcases (show a = 85 ∨ a = 86 ∨ a = 87 ∨ a = 88 ∨ a = 89 ∨ a = 90 ∨ (a < 85 ∨ 90 < a) by omega) with h | h | h | h | h | h | h
    · subst h; simp [ax_up, ly_S]
    · subst h; simp [ax_up, ly_S]
    · subst h; simp [ax_up, ly_S]
    · subst h; simp [ax_up, ly_S]
    · subst h; simp [ax_up, ly_S]
    · subst h; simp [ax_up, ly_S]
    · have e : ∀ k, 85 ≤ k → k ≤ 90 → a ≠ k := fun k h1 h2 => by omega
      rw [up_ne (e 90 (by decide) (by decide)), up_ne (e 89 (by decide) (by decide)), up_ne (e 88 (by decide) (by decide)), up_ne (e 87 (by decide) (by decide)), up_ne (e 86 (by decide) (by decide)), up_ne (e 85 (by decide) (by decide))]
      unfold ly_S
      rw [if_neg (by omega), if_neg (by omega)]
  · have e : ∀ (τ : ax_Z) (k : Nat) (v : Int32), ax_up τ k m v a b = τ a b := fun τ k v => by
      unfold ax_up
      rw [if_neg (fun z => hb z.2)]
    rw [e, e, e, e, e, e]
    unfold ly_S
    by_cases h : 85 ≤ a ∧ a ≤ 90 ∧ b < m
    · rw [if_pos h, if_pos ⟨h.1, h.2.1, by omega⟩]
    · rw [if_neg h, if_neg (fun z => h ⟨z.1, z.2.1, by omega⟩)]
theorem ly_ne {σ : ax_Z} {n m a : Nat} (h : a < 85 ∨ 90 < a) (h7 : a ≠ 77) : ly_S σ n m a = σ a := by
  funext b
  unfold ly_S
  rw [if_neg (by omega), up_ne h7, up_ne h7]
theorem ly_in {σ : ax_Z} {n m a b : Nat} (h1 : 85 ≤ a) (h2 : a ≤ 90) (h3 : b < m) : ly_S σ n m a b = σ 81 (8 + 6 * b + (a - 85)) := if_pos ⟨h1, h2, h3⟩
theorem ly_20 {σ : ax_Z} {n m : Nat} : ly_S σ n m 77 20 = nI n := by
  unfold ly_S
  rw [if_neg (by omega), up_o (by decide), up_s]
theorem ly_29 {σ : ax_Z} {n m : Nat} : ly_S σ n m 77 29 = 0 := by
  unfold ly_S
  rw [if_neg (by omega), up_s]
theorem ly_o {σ : ax_Z} {n m j : Nat} (h : j ≠ 20 ∧ j ≠ 29) : ly_S σ n m 77 j = σ 77 j := by
  unfold ly_S
  rw [if_neg (by omega), up_o h.2, up_o h.1]

set_option maxRecDepth 20000 in
set_option maxHeartbeats 4000000 in
theorem w_X7_row {Y : ax_Y} {ad : Nat → Nat} (F : ax_F Y) {l : Launch} {σ : ax_Z} {row lane n : Int32} : ax_m Y ad l iX7_row 2 σ [.ref (ad 77), .int row, .int lane, .int n] (some (.int (if ((0 ≤ row ∧ row ≤ 7) ∧ (0 ≤ lane ∧ lane ≤ 2) ∧ n ≤ 40) then (if 0 ≤ n then n else -1000010 - 4) else -1000001))) (if ((0 ≤ row ∧ row ≤ 7) ∧ (0 ≤ lane ∧ lane ≤ 2) ∧ n ≤ 40) then (if 0 ≤ n then fin (ax_up (ax_up (ax_up (ax_up σ 77 0 0) 77 1 0) 78 row.toNatClampNeg lane) 79 row.toNatClampNeg n) 80 (40 * row.toNatClampNeg) 40 0 else ax_up (ax_up (ax_up σ 77 0 0) 77 1 0) 77 1 4) else (ax_up σ 77 0 0)) := by
  refine ax_m.of F kX7_row.1 [some (.ref (ad 77)), some (.int (row)), some (.int (lane)), some (.int (n)), none] rfl (Nat.le_of_ble_eq_true rfl) (fun x C => ?_)
  refine ax_aload_0 (pc := 0) C dX7_row_0 ?_
  refine ax_iconst (pc := 1) (v := 0) C dX7_row_1 (by decide) ?_
  refine ax_putI (pc := 2) C fX7_65 dX7_row_2 rfl rfl rfl rfl ?_
  refine ax_iload_1 (pc := 5) C dX7_row_5 ?_
  refine ax_callSi (pc := 6) C (w_X7_isRow F) kX7_isRow mX7_79 dX7_row_6 (by decide) rfl rfl (Nat.le_of_ble_eq_true rfl) rfl ⟨Nat.le_refl _, Nat.le_refl _⟩ ?_
  refine ax_if_eq (pc := 9) (tgt := 30) C dX7_row_9 (by decide) (fun h9 => ?_) (fun h9 => ?_)
  · have h9 := ax_beq h9
    refine ax_ldc (pc := 30) C dX7_row_30 qX7_85 ?_
    exact ax_ir (pc := 32) C rfl dX7_row_32 (by first | with_reducible rfl | (simp only [h9, if_true, if_false, true_and, and_true, false_and, and_false, not_false_eq_true, not_true_eq_false]; done) | (simp only [h9, if_true, if_false, true_and, and_true, false_and, and_false, not_false_eq_true, not_true_eq_false]; with_reducible rfl)) (by first | with_reducible rfl | (simp only [h9, if_true, if_false, true_and, and_true, false_and, and_false, not_false_eq_true, not_true_eq_false]; done) | (simp only [h9, if_true, if_false, true_and, and_true, false_and, and_false, not_false_eq_true, not_true_eq_false]; with_reducible rfl))
  · have h9 := ax_bne h9
    refine ax_iload_2 (pc := 12) C dX7_row_12 ?_
    refine ax_i2l (pc := 13) C dX7_row_13 ?_
    refine ax_lconst (pc := 14) (v := 0) C dX7_row_14 (by decide) ?_
    refine ax_ldc2 (pc := 15) C dX7_row_15 qX7_83 ?_
    refine ax_callSi (pc := 18) C (w_X7_in F (lo := (0)) (hi := (2)) rfl rfl) kX7_in mX7_75 dX7_row_18 (by decide) rfl rfl (Nat.le_of_ble_eq_true rfl) rfl ⟨Nat.le_refl _, Nat.le_refl _⟩ ?_
    refine ax_if_eq (pc := 21) (tgt := 30) C dX7_row_21 (by decide) (fun h21 => ?_) (fun h21 => ?_)
    · have h21 := ax_beq h21
      refine ax_ldc (pc := 30) C dX7_row_30 qX7_85 ?_
      exact ax_ir (pc := 32) C rfl dX7_row_32 (by first | with_reducible rfl | (simp only [h9, h21, if_true, if_false, true_and, and_true, false_and, and_false, not_false_eq_true, not_true_eq_false]; done) | (simp only [h9, h21, if_true, if_false, true_and, and_true, false_and, and_false, not_false_eq_true, not_true_eq_false]; with_reducible rfl)) (by first | with_reducible rfl | (simp only [h9, h21, if_true, if_false, true_and, and_true, false_and, and_false, not_false_eq_true, not_true_eq_false]; done) | (simp only [h9, h21, if_true, if_false, true_and, and_true, false_and, and_false, not_false_eq_true, not_true_eq_false]; with_reducible rfl))
    · have h21 := ax_bne h21
      refine ax_iload_3 (pc := 24) C dX7_row_24 ?_
      refine ax_bipush (pc := 25) (v := 40) C dX7_row_25 (by decide) ?_
      refine ax_icmp_le (pc := 27) (tgt := 33) C dX7_row_27 (by decide) (fun h27 => ?_) (fun h27 => ?_)
      · refine ax_aload_0 (pc := 33) C dX7_row_33 ?_
        refine ax_iconst (pc := 34) (v := 0) C dX7_row_34 (by decide) ?_
        refine ax_putI (pc := 35) C fX7_69 dX7_row_35 rfl rfl rfl rfl ?_
        refine ax_iload_3 (pc := 38) C dX7_row_38 ?_
        refine ax_if_ge (pc := 39) (tgt := 48) C dX7_row_39 (by decide) (fun h39 => ?_) (fun h39 => ?_)
        · obtain ⟨c, hc, rfl⟩ := ax_ix (m := 7) (by decide) h9
          have ec : (nI c).toNatClampNeg = c := nI_clamp (by omega)
          have hq := And.intro h9 (And.intro h21 h27)
          simp only [if_pos hq, if_pos h39, ec]
          refine ax_aload_0 (pc := 48) C dX7_row_48 ?_
          refine ax_getR (pc := 49) C fX7_7 dX7_row_49 rfl rfl ?_
          refine ax_iload_1 (pc := 52) C dX7_row_52 ?_
          refine ax_iload_2 (pc := 53) C dX7_row_53 ?_
          refine ax_isn (pc := 54) C dX7_row_54 rfl (by omega) (by omega) ?_
          refine ax_aload_0 (pc := 55) C dX7_row_55 ?_
          refine ax_getR (pc := 56) C fX7_13 dX7_row_56 rfl rfl ?_
          refine ax_iload_1 (pc := 59) C dX7_row_59 ?_
          refine ax_iload_3 (pc := 60) C dX7_row_60 ?_
          refine ax_isn (pc := 61) C dX7_row_61 rfl (by omega) (by omega) ?_
          have loop : ∀ (q : Nat) (k : Nat), k ≤ 40 → 40 < k + q → ax_S x Y ad 0 0 (ax_Q x Y ad (some (.int n)) 96 (ax_g Y ad (fin (ax_up (ax_up (ax_up (ax_up σ 77 0 0) 77 1 0) 78 c lane) 79 c n) 80 (40 * c) 40 0)) 0 0) (fin (ax_up (ax_up (ax_up (ax_up σ 77 0 0) 77 1 0) 78 c lane) 79 c n) 80 (40 * c) k 0) 65 [some (.ref (ad 77)), some (.int (nI c)), some (.int (lane)), some (.int (n)), some (.int (nI k))] [] := by
            intro q
            induction q with
            | zero => intro k h1 h2; exfalso; omega
            | succ q ih =>
              intro k h1 h2
              refine ax_iload_4 (pc := 65) C dX7_row_65 ?_
              refine ax_bipush (pc := 67) (v := 40) C dX7_row_67 (by decide) ?_
              refine ax_icmp_ge (pc := 69) (tgt := 91) C dX7_row_69 (by decide) (fun h69 => ?_) (fun h69 => ?_)
              · have hk69 : ¬ k < 40 := fun z => nI_ge (a := k) (b := 40) z (by decide) h69
                refine ax_iload_3 (pc := 91) C dX7_row_91 ?_
                exact ax_ir (pc := 92) C rfl dX7_row_92 rfl (by rw [show k = 40 by omega])
              · have hk69 : k < 40 := Nat.lt_of_not_le (fun z => h69 (nI_le (a := 40) z (by omega)))
                refine ax_aload_0 (pc := 72) C dX7_row_72 ?_
                refine ax_getR (pc := 73) C fX7_16 dX7_row_73 rfl rfl ?_
                refine ax_bipush (pc := 76) (v := 40) C dX7_row_76 (by decide) ?_
                refine ax_iload_1 (pc := 78) C dX7_row_78 ?_
                refine ax_imul (pc := 79) C dX7_row_79 ?_
                refine ax_iload_4 (pc := 80) C dX7_row_80 ?_
                refine ax_iadd (pc := 82) C dX7_row_82 ?_
                refine ax_iconst (pc := 83) (v := 0) C dX7_row_83 (by decide) ?_
                refine ax_ise (pc := 84) (c := 40 * c + k) C dX7_row_84 rfl ix40 (by omega) (by decide) ?_
                refine ax_iinc_4 (pc := 85) C dX7_row_85 (1) (by decide) rfl ?_
                refine ax_goto (pc := 88) (tgt := 65) C dX7_row_88 (by decide) ?_
                refine ax_SLeq fin_s (by rw [nI_1]) (ih (k + 1) (by omega) (by omega))
          refine ax_iconst (pc := 62) (v := 0) C dX7_row_62 (by decide) ?_
          refine ax_istore_4 (pc := 63) C dX7_row_63 rfl ?_
          exact ax_Seq fin_0.symm (loop 41 0 (by omega) (by omega))
        · refine ax_aload_0 (pc := 42) C dX7_row_42 ?_
          refine ax_iconst (pc := 43) (v := 4) C dX7_row_43 (by decide) ?_
          refine ax_callVi (pc := 44) C (w_X7_finding F) kX7_finding mX7_86 dX7_row_44 (by decide) rfl rfl rfl rfl rfl (Nat.le_of_ble_eq_true rfl) rfl ⟨Nat.le_refl _, Nat.le_refl _⟩ ?_
          exact ax_ir (pc := 47) C rfl dX7_row_47 (by first | with_reducible rfl | (simp only [h9, h21, h27, h39, if_true, if_false, true_and, and_true, false_and, and_false, not_false_eq_true, not_true_eq_false]; done) | (simp only [h9, h21, h27, h39, if_true, if_false, true_and, and_true, false_and, and_false, not_false_eq_true, not_true_eq_false]; with_reducible rfl)) (by first | with_reducible rfl | (simp only [h9, h21, h27, h39, if_true, if_false, true_and, and_true, false_and, and_false, not_false_eq_true, not_true_eq_false]; done) | (simp only [h9, h21, h27, h39, if_true, if_false, true_and, and_true, false_and, and_false, not_false_eq_true, not_true_eq_false]; with_reducible rfl))
      · refine ax_ldc (pc := 30) C dX7_row_30 qX7_85 ?_
        exact ax_ir (pc := 32) C rfl dX7_row_32 (by first | with_reducible rfl | (simp only [h9, h21, h27, if_true, if_false, true_and, and_true, false_and, and_false, not_false_eq_true, not_true_eq_false]; done) | (simp only [h9, h21, h27, if_true, if_false, true_and, and_true, false_and, and_false, not_false_eq_true, not_true_eq_false]; with_reducible rfl)) (by first | with_reducible rfl | (simp only [h9, h21, h27, if_true, if_false, true_and, and_true, false_and, and_false, not_false_eq_true, not_true_eq_false]; done) | (simp only [h9, h21, h27, if_true, if_false, true_and, and_true, false_and, and_false, not_false_eq_true, not_true_eq_false]; with_reducible rfl))

set_option maxRecDepth 20000 in
set_option maxHeartbeats 4000000 in
theorem w_X7_image {Y : ax_Y} {ad : Nat → Nat} (F : ax_F Y) {l : Launch} {σ : ax_Z} {k : Int32} : ax_m Y ad l iX7_image 1 σ [.ref (ad 77), .int k] (some (.int (if 0 ≤ k ∧ k ≤ 1 then (if (ax_up σ 77 0 0) 77 7 = 0 then -1000002 else 1) else -1000001))) (if 0 ≤ k ∧ k ≤ 1 then (if (ax_up σ 77 0 0) 77 7 = 0 then (ax_up σ 77 0 0) else (ax_up (cpn (ax_up σ 77 0 0) 81 0 94 (44 * k.toNatClampNeg) 44) 93 k.toNatClampNeg (vp_nar .boolean 1))) else (ax_up σ 77 0 0)) := by
  refine ax_m.of F kX7_image.1 [some (.ref (ad 77)), some (.int (k)), none] rfl (Nat.le_of_ble_eq_true rfl) (fun x C => ?_)
  refine ax_aload_0 (pc := 0) C dX7_image_0 ?_
  refine ax_iconst (pc := 1) (v := 0) C dX7_image_1 (by decide) ?_
  refine ax_putI (pc := 2) C fX7_65 dX7_image_2 rfl rfl rfl rfl ?_
  refine ax_iload_1 (pc := 5) C dX7_image_5 ?_
  refine ax_i2l (pc := 6) C dX7_image_6 ?_
  refine ax_lconst (pc := 7) (v := 0) C dX7_image_7 (by decide) ?_
  refine ax_lconst (pc := 8) (v := 1) C dX7_image_8 (by decide) ?_
  refine ax_callSi (pc := 9) C (w_X7_in F (lo := (0)) (hi := (1)) rfl rfl) kX7_in mX7_75 dX7_image_9 (by decide) rfl rfl (Nat.le_of_ble_eq_true rfl) rfl ⟨Nat.le_refl _, Nat.le_refl _⟩ ?_
  refine ax_if_ne (pc := 12) (tgt := 18) C dX7_image_12 (by decide) (fun h12 => ?_) (fun h12 => ?_)
  · have h12 := ax_bne h12
    obtain ⟨c, hc, rfl⟩ := ax_ix (m := 1) (by decide) h12
    have ec : (nI c).toNatClampNeg = c := nI_clamp (by omega)
    refine ax_aload_0 (pc := 18) C dX7_image_18 ?_
    refine ax_getI (pc := 19) C fX7_186 dX7_image_19 rfl rfl ?_
    refine ax_if_ne (pc := 22) (tgt := 28) C dX7_image_22 (by decide) (fun h22 => ?_) (fun h22 => ?_)
    · rw [if_pos h12, if_pos h12, if_neg h22, if_neg h22, ec]
      have tl : ax_S x Y ad 0 0 (ax_Q x Y ad (some (.int 1)) 96 (ax_g Y ad (ax_up (cpn (ax_up σ 77 0 0) 81 0 94 (44 * c) 44) 93 c (vp_nar .boolean 1))) 0 0) (cpn (ax_up σ 77 0 0) 81 0 94 (44 * c) 44) 59 [some (.ref (ad 77)), some (.int (nI c)), some (.int (nI 44))] [] := by
        refine ax_aload_0 (pc := 59) C dX7_image_59 ?_
        refine ax_getR (pc := 60) C fX7_55 dX7_image_60 rfl rfl ?_
        refine ax_iload_1 (pc := 63) C dX7_image_63 ?_
        refine ax_iconst (pc := 64) (v := 1) C dX7_image_64 (by decide) ?_
        refine ax_zas (pc := 65) C dX7_image_65 rfl (by omega) (by decide) ?_
        refine ax_iconst (pc := 66) (v := 1) C dX7_image_66 (by decide) ?_
        exact ax_ir (pc := 67) C rfl dX7_image_67 rfl rfl
      have loop : ∀ (q : Nat) (m : Nat), m ≤ 44 → 44 < m + q → ax_S x Y ad 0 0 (ax_Q x Y ad (some (.int 1)) 96 (ax_g Y ad (ax_up (cpn (ax_up σ 77 0 0) 81 0 94 (44 * c) 44) 93 c (vp_nar .boolean 1))) 0 0) (cpn (ax_up σ 77 0 0) 81 0 94 (44 * c) m) 30 [some (.ref (ad 77)), some (.int (nI c)), some (.int (nI m))] [] := by
        intro q
        induction q with
        | zero => intro m h1 h2; exfalso; omega
        | succ q ih =>
          intro m h1 h2
          refine ax_iload_2 (pc := 30) C dX7_image_30 ?_
          refine ax_bipush (pc := 31) (v := 44) C dX7_image_31 (by decide) ?_
          refine ax_icmp_ge (pc := 33) (tgt := 59) C dX7_image_33 (by decide) (fun h33 => ?_) (fun h33 => ?_)
          · have hm33 : ¬ m < 44 := fun z => nI_ge (a := m) (b := 44) z (by decide) h33
            have hm44 : m = 44 := by omega
            subst hm44
            exact tl
          · have hm33 : m < 44 := Nat.lt_of_not_le (fun z => h33 (nI_le (a := 44) z (by omega)))
            refine ax_aload_0 (pc := 36) C dX7_image_36 ?_
            refine ax_getR (pc := 37) C fX7_59 dX7_image_37 rfl rfl ?_
            refine ax_bipush (pc := 40) (v := 44) C dX7_image_40 (by decide) ?_
            refine ax_iload_1 (pc := 42) C dX7_image_42 ?_
            refine ax_imul (pc := 43) C dX7_image_43 ?_
            refine ax_iload_2 (pc := 44) C dX7_image_44 ?_
            refine ax_iadd (pc := 45) C dX7_image_45 ?_
            refine ax_aload_0 (pc := 46) C dX7_image_46 ?_
            refine ax_getR (pc := 47) C fX7_19 dX7_image_47 rfl rfl ?_
            refine ax_iload_2 (pc := 50) C dX7_image_50 ?_
            refine ax_ian (pc := 51) C dX7_image_51 rfl (by omega) (by omega) ?_
            refine ax_ise (pc := 52) (c := 44 * c + m) C dX7_image_52 rfl ix44 (by omega) (by decide) ?_
            refine ax_iinc_2 (pc := 53) C dX7_image_53 (1) (by decide) rfl ?_
            refine ax_goto (pc := 56) (tgt := 30) C dX7_image_56 (by decide) ?_
            refine ax_SLeq ?_ (by rw [nI_1]) (ih (m + 1) (by omega) (by omega))
            have e := cpn_s (σ := (ax_up σ 77 0 0)) (k1 := 81) (s := 0) (k2 := 94) (d := 44 * c) (n := m) (by decide)
            rw [Nat.zero_add] at e
            exact e
      refine ax_iconst (pc := 28) (v := 0) C dX7_image_28 (by decide) ?_
      refine ax_istore_2 (pc := 29) C dX7_image_29 rfl ?_
      exact ax_Seq cpn_0.symm (loop 45 0 (by omega) (by omega))
    · refine ax_ldc (pc := 25) C dX7_image_25 qX7_223 ?_
      exact ax_ir (pc := 27) C rfl dX7_image_27 (by first | with_reducible rfl | (simp only [h12, h22, if_true, if_false, true_and, and_true, false_and, and_false, not_false_eq_true, not_true_eq_false, ec]; done) | (simp only [h12, h22, if_true, if_false, true_and, and_true, false_and, and_false, not_false_eq_true, not_true_eq_false, ec]; with_reducible rfl)) (by first | with_reducible rfl | (simp only [h12, h22, if_true, if_false, true_and, and_true, false_and, and_false, not_false_eq_true, not_true_eq_false, ec]; done) | (simp only [h12, h22, if_true, if_false, true_and, and_true, false_and, and_false, not_false_eq_true, not_true_eq_false, ec]; with_reducible rfl))
  · have h12 := ax_beq h12
    refine ax_ldc (pc := 15) C dX7_image_15 qX7_85 ?_
    exact ax_ir (pc := 17) C rfl dX7_image_17 (by first | with_reducible rfl | (simp only [h12, if_true, if_false, true_and, and_true, false_and, and_false, not_false_eq_true, not_true_eq_false]; done) | (simp only [h12, if_true, if_false, true_and, and_true, false_and, and_false, not_false_eq_true, not_true_eq_false]; with_reducible rfl)) (by first | with_reducible rfl | (simp only [h12, if_true, if_false, true_and, and_true, false_and, and_false, not_false_eq_true, not_true_eq_false]; done) | (simp only [h12, if_true, if_false, true_and, and_true, false_and, and_false, not_false_eq_true, not_true_eq_false]; with_reducible rfl))

set_option maxRecDepth 20000 in
set_option maxHeartbeats 4000000 in
theorem w_X7_restore {Y : ax_Y} {ad : Nat → Nat} (F : ax_F Y) {l : Launch} {σ : ax_Z} {k : Int32} : ax_m Y ad l iX7_restore 1 σ [.ref (ad 77), .int k] (some (.int (if 0 ≤ k ∧ k ≤ 1 then (if (ax_up σ 77 0 0) 93 k.toNatClampNeg = 0 then -1000002 else 1) else -1000001))) (if 0 ≤ k ∧ k ≤ 1 then (if (ax_up σ 77 0 0) 93 k.toNatClampNeg = 0 then (ax_up σ 77 0 0) else (ax_up (cpn (ax_up σ 77 0 0) 94 (44 * k.toNatClampNeg) 81 0 44) 77 9 0)) else (ax_up σ 77 0 0)) := by
  refine ax_m.of F kX7_restore.1 [some (.ref (ad 77)), some (.int (k)), none] rfl (Nat.le_of_ble_eq_true rfl) (fun x C => ?_)
  refine ax_aload_0 (pc := 0) C dX7_restore_0 ?_
  refine ax_iconst (pc := 1) (v := 0) C dX7_restore_1 (by decide) ?_
  refine ax_putI (pc := 2) C fX7_65 dX7_restore_2 rfl rfl rfl rfl ?_
  refine ax_iload_1 (pc := 5) C dX7_restore_5 ?_
  refine ax_i2l (pc := 6) C dX7_restore_6 ?_
  refine ax_lconst (pc := 7) (v := 0) C dX7_restore_7 (by decide) ?_
  refine ax_lconst (pc := 8) (v := 1) C dX7_restore_8 (by decide) ?_
  refine ax_callSi (pc := 9) C (w_X7_in F (lo := (0)) (hi := (1)) rfl rfl) kX7_in mX7_75 dX7_restore_9 (by decide) rfl rfl (Nat.le_of_ble_eq_true rfl) rfl ⟨Nat.le_refl _, Nat.le_refl _⟩ ?_
  refine ax_if_ne (pc := 12) (tgt := 18) C dX7_restore_12 (by decide) (fun h12 => ?_) (fun h12 => ?_)
  · have h12 := ax_bne h12
    obtain ⟨c, hc, rfl⟩ := ax_ix (m := 1) (by decide) h12
    have ec : (nI c).toNatClampNeg = c := nI_clamp (by omega)
    refine ax_aload_0 (pc := 18) C dX7_restore_18 ?_
    refine ax_getR (pc := 19) C fX7_55 dX7_restore_19 rfl rfl ?_
    refine ax_iload_1 (pc := 22) C dX7_restore_22 ?_
    refine ax_zal (pc := 23) C dX7_restore_23 rfl (by omega) (by decide) ?_
    refine ax_if_ne (pc := 24) (tgt := 30) C dX7_restore_24 (by decide) (fun h24 => ?_) (fun h24 => ?_)
    · rw [if_pos h12, if_pos h12, ec, if_neg h24, if_neg h24]
      have tl : ax_S x Y ad 0 0 (ax_Q x Y ad (some (.int 1)) 96 (ax_g Y ad (ax_up (cpn (ax_up σ 77 0 0) 94 (44 * c) 81 0 44) 77 9 0)) 0 0) (cpn (ax_up σ 77 0 0) 94 (44 * c) 81 0 44) 61 [some (.ref (ad 77)), some (.int (nI c)), some (.int (nI 44))] [] := by
        refine ax_aload_0 (pc := 61) C dX7_restore_61 ?_
        refine ax_iconst (pc := 62) (v := 0) C dX7_restore_62 (by decide) ?_
        refine ax_putI (pc := 63) C fX7_190 dX7_restore_63 rfl rfl rfl rfl ?_
        refine ax_iconst (pc := 66) (v := 1) C dX7_restore_66 (by decide) ?_
        exact ax_ir (pc := 67) C rfl dX7_restore_67 rfl rfl
      have loop : ∀ (q : Nat) (m : Nat), m ≤ 44 → 44 < m + q → ax_S x Y ad 0 0 (ax_Q x Y ad (some (.int 1)) 96 (ax_g Y ad (ax_up (cpn (ax_up σ 77 0 0) 94 (44 * c) 81 0 44) 77 9 0)) 0 0) (cpn (ax_up σ 77 0 0) 94 (44 * c) 81 0 m) 32 [some (.ref (ad 77)), some (.int (nI c)), some (.int (nI m))] [] := by
        intro q
        induction q with
        | zero => intro m h1 h2; exfalso; omega
        | succ q ih =>
          intro m h1 h2
          refine ax_iload_2 (pc := 32) C dX7_restore_32 ?_
          refine ax_bipush (pc := 33) (v := 44) C dX7_restore_33 (by decide) ?_
          refine ax_icmp_ge (pc := 35) (tgt := 61) C dX7_restore_35 (by decide) (fun h35 => ?_) (fun h35 => ?_)
          · have hm35 : ¬ m < 44 := fun z => nI_ge (a := m) (b := 44) z (by decide) h35
            have hm44 : m = 44 := by omega
            subst hm44
            exact tl
          · have hm35 : m < 44 := Nat.lt_of_not_le (fun z => h35 (nI_le (a := 44) z (by omega)))
            refine ax_aload_0 (pc := 38) C dX7_restore_38 ?_
            refine ax_getR (pc := 39) C fX7_19 dX7_restore_39 rfl rfl ?_
            refine ax_iload_2 (pc := 42) C dX7_restore_42 ?_
            refine ax_aload_0 (pc := 43) C dX7_restore_43 ?_
            refine ax_getR (pc := 44) C fX7_59 dX7_restore_44 rfl rfl ?_
            refine ax_bipush (pc := 47) (v := 44) C dX7_restore_47 (by decide) ?_
            refine ax_iload_1 (pc := 49) C dX7_restore_49 ?_
            refine ax_imul (pc := 50) C dX7_restore_50 ?_
            refine ax_iload_2 (pc := 51) C dX7_restore_51 ?_
            refine ax_iadd (pc := 52) C dX7_restore_52 ?_
            refine ax_iae (pc := 53) (c := 44 * c + m) C dX7_restore_53 rfl ix44 (by omega) (by decide) ?_
            refine ax_isn (pc := 54) C dX7_restore_54 rfl (by omega) (by omega) ?_
            refine ax_iinc_2 (pc := 55) C dX7_restore_55 (1) (by decide) rfl ?_
            refine ax_goto (pc := 58) (tgt := 32) C dX7_restore_58 (by decide) ?_
            refine ax_SLeq ?_ (by rw [nI_1]) (ih (m + 1) (by omega) (by omega))
            have e := cpn_s (σ := (ax_up σ 77 0 0)) (k1 := 94) (s := 44 * c) (k2 := 81) (d := 0) (n := m) (by decide)
            rw [Nat.zero_add] at e
            exact e
      refine ax_iconst (pc := 30) (v := 0) C dX7_restore_30 (by decide) ?_
      refine ax_istore_2 (pc := 31) C dX7_restore_31 rfl ?_
      exact ax_Seq cpn_0.symm (loop 45 0 (by omega) (by omega))
    · refine ax_ldc (pc := 27) C dX7_restore_27 qX7_223 ?_
      exact ax_ir (pc := 29) C rfl dX7_restore_29 (by first | with_reducible rfl | (simp only [h12, h24, if_true, if_false, true_and, and_true, false_and, and_false, not_false_eq_true, not_true_eq_false, ec]; done) | (simp only [h12, h24, if_true, if_false, true_and, and_true, false_and, and_false, not_false_eq_true, not_true_eq_false, ec]; with_reducible rfl)) (by first | with_reducible rfl | (simp only [h12, h24, if_true, if_false, true_and, and_true, false_and, and_false, not_false_eq_true, not_true_eq_false, ec]; done) | (simp only [h12, h24, if_true, if_false, true_and, and_true, false_and, and_false, not_false_eq_true, not_true_eq_false, ec]; with_reducible rfl))
  · have h12 := ax_beq h12
    refine ax_ldc (pc := 15) C dX7_restore_15 qX7_85 ?_
    exact ax_ir (pc := 17) C rfl dX7_restore_17 (by first | with_reducible rfl | (simp only [h12, if_true, if_false, true_and, and_true, false_and, and_false, not_false_eq_true, not_true_eq_false]; done) | (simp only [h12, if_true, if_false, true_and, and_true, false_and, and_false, not_false_eq_true, not_true_eq_false]; with_reducible rfl)) (by first | with_reducible rfl | (simp only [h12, if_true, if_false, true_and, and_true, false_and, and_false, not_false_eq_true, not_true_eq_false]; done) | (simp only [h12, if_true, if_false, true_and, and_true, false_and, and_false, not_false_eq_true, not_true_eq_false]; with_reducible rfl))

set_option maxRecDepth 20000 in
set_option maxHeartbeats 4000000 in
theorem w_X7_keep {Y : ax_Y} {ad : Nat → Nat} (F : ax_F Y) {l : Launch} {σ : ax_Z} {m : Nat} (hm : σ 77 9 = nI m) (h24 : m ≤ 24) : ax_m Y ad l iX7_keep 0 σ [.ref (ad 77)] none (mk_keep σ m) := by
  refine ax_m.of F kX7_keep.1 [some (.ref (ad 77)), none] rfl (Nat.le_of_ble_eq_true rfl) (fun x C => ?_)
  by_cases hm24 : m = 24
  ·
    have loop2 : ∀ (q : Nat) (k : Nat), k ≤ 44 → 44 < k + q → ax_S x Y ad 0 0 (ax_Q x Y ad none 96 (ax_g Y ad (mk_keep σ m)) 0 0) (cpn (mk_sh σ) 81 0 83 (44 * (23)) k) 51 [some (.ref (ad 77)), some (.int (nI k))] [] := by
      intro q
      induction q with
      | zero => intro k h1 h2; exfalso; omega
      | succ q ih =>
        intro k h1 h2
        refine ax_iload_1 (pc := 51) C dX7_keep_51 ?_
        refine ax_bipush (pc := 52) (v := 44) C dX7_keep_52 (by decide) ?_
        refine ax_icmp_ge (pc := 54) (tgt := 83) C dX7_keep_54 (by decide) (fun h54 => ?_) (fun h54 => ?_)
        · have hk54 : ¬ k < 44 := fun z => nI_ge (a := k) (b := 44) z (by decide) h54
          refine ax_aload_0 (pc := 83) C dX7_keep_83 ?_
          refine ax_dup (pc := 84) C dX7_keep_84 rfl ?_
          refine ax_getI (pc := 85) C fX7_190 dX7_keep_85 rfl rfl ?_
          refine ax_iconst (pc := 88) (v := 1) C dX7_keep_88 (by decide) ?_
          refine ax_iadd (pc := 89) C dX7_keep_89 ?_
          refine ax_val C (show _ = nI (23 + 1) by rw [cpn_ne (by decide), show mk_sh σ 77 9 = nI 23 from up_s, nI_1]) ?_
          refine ax_putI (pc := 90) C fX7_190 dX7_keep_90 rfl rfl rfl rfl ?_
          exact ax_vr (pc := 93) C rfl dX7_keep_93 (by rw [mk_keep, if_pos hm24, show k = 44 by omega]; rfl)
        · have hk54 : k < 44 := Nat.lt_of_not_le (fun z => h54 (nI_le (a := 44) z (by omega)))
          refine ax_aload_0 (pc := 57) C dX7_keep_57 ?_
          refine ax_getR (pc := 58) C fX7_25 dX7_keep_58 rfl rfl ?_
          refine ax_bipush (pc := 61) (v := 44) C dX7_keep_61 (by decide) ?_
          refine ax_aload_0 (pc := 63) C dX7_keep_63 ?_
          refine ax_getI (pc := 64) C fX7_190 dX7_keep_64 rfl rfl ?_
          refine ax_imul (pc := 67) C dX7_keep_67 ?_
          refine ax_iload_1 (pc := 68) C dX7_keep_68 ?_
          refine ax_iadd (pc := 69) C dX7_keep_69 ?_
          refine ax_aload_0 (pc := 70) C dX7_keep_70 ?_
          refine ax_getR (pc := 71) C fX7_19 dX7_keep_71 rfl rfl ?_
          refine ax_iload_1 (pc := 74) C dX7_keep_74 ?_
          refine ax_ian (pc := 75) C dX7_keep_75 rfl (by omega) (by omega) ?_
          refine ax_ise (pc := 76) (c := 44 * (23) + k) C dX7_keep_76 rfl (show (44 : Int32) * cpn (mk_sh σ) 81 0 83 (44 * (23)) k 77 9 + nI k = nI (44 * (23) + k) by rw [cpn_ne (by decide), show mk_sh σ 77 9 = nI 23 from up_s]; exact ix44) (by omega) (by decide) ?_
          refine ax_iinc_1 (pc := 77) C dX7_keep_77 (1) (by decide) rfl ?_
          refine ax_goto (pc := 80) (tgt := 51) C dX7_keep_80 (by decide) ?_
          refine ax_SLeq ?_ (by rw [nI_1]) (ih (k + 1) (by omega) (by omega))
          have e := cpn_s (σ := (mk_sh σ)) (k1 := 81) (s := 0) (k2 := 83) (d := 44 * (23)) (n := k) (by decide)
          rw [Nat.zero_add] at e
          exact e
    have loop1 : ∀ (q : Nat) (k : Nat), k ≤ 1012 → 1012 < k + q → ax_S x Y ad 0 0 (ax_Q x Y ad none 96 (ax_g Y ad (mk_keep σ m)) 0 0) (shd σ k) 11 [some (.ref (ad 77)), some (.int (nI k))] [] := by
      intro q
      induction q with
      | zero => intro k h1 h2; exfalso; omega
      | succ q ih =>
        intro k h1 h2
        refine ax_iload_1 (pc := 11) C dX7_keep_11 ?_
        refine ax_sipush (pc := 12) (v := 1012) C dX7_keep_12 (by decide) ?_
        refine ax_icmp_ge (pc := 15) (tgt := 39) C dX7_keep_15 (by decide) (fun h15 => ?_) (fun h15 => ?_)
        · have hk15 : ¬ k < 1012 := fun z => nI_ge (a := k) (b := 1012) z (by decide) h15
          refine ax_aload_0 (pc := 39) C dX7_keep_39 ?_
          refine ax_dup (pc := 40) C dX7_keep_40 rfl ?_
          refine ax_getI (pc := 41) C fX7_190 dX7_keep_41 rfl rfl ?_
          refine ax_iconst (pc := 44) (v := 1) C dX7_keep_44 (by decide) ?_
          refine ax_isub (pc := 45) C dX7_keep_45 ?_
          refine ax_val C (show _ = nI 23 by rw [shd_ne (by decide), hm, hm24]; rfl) ?_
          refine ax_putI (pc := 46) C fX7_190 dX7_keep_46 rfl rfl rfl rfl ?_
          refine ax_iconst (pc := 49) (v := 0) C dX7_keep_49 (by decide) ?_
          refine ax_istore_1 (pc := 50) C dX7_keep_50 rfl ?_
          have hk2 : k = 1012 := by omega
          subst hk2
          exact ax_Seq cpn_0.symm (loop2 45 0 (by omega) (by omega))
        · have hk15 : k < 1012 := Nat.lt_of_not_le (fun z => h15 (nI_le (a := 1012) z (by omega)))
          refine ax_aload_0 (pc := 18) C dX7_keep_18 ?_
          refine ax_getR (pc := 19) C fX7_25 dX7_keep_19 rfl rfl ?_
          refine ax_iload_1 (pc := 22) C dX7_keep_22 ?_
          refine ax_aload_0 (pc := 23) C dX7_keep_23 ?_
          refine ax_getR (pc := 24) C fX7_25 dX7_keep_24 rfl rfl ?_
          refine ax_iload_1 (pc := 27) C dX7_keep_27 ?_
          refine ax_bipush (pc := 28) (v := 44) C dX7_keep_28 (by decide) ?_
          refine ax_iadd (pc := 30) C dX7_keep_30 ?_
          refine ax_iae (pc := 31) (c := k + 44) C dX7_keep_31 rfl (show nI k + 44 = nI (k + 44) by rw [show (44 : Int32) = nI 44 from rfl, nI_add]) (by omega) (by decide) ?_
          refine ax_isn (pc := 32) C dX7_keep_32 rfl (by omega) (by decide) ?_
          refine ax_iinc_1 (pc := 33) C dX7_keep_33 (1) (by decide) rfl ?_
          refine ax_goto (pc := 36) (tgt := 11) C dX7_keep_36 (by decide) ?_
          refine ax_SLeq shd_s (by rw [nI_1]) (ih (k + 1) (by omega) (by omega))
    refine ax_aload_0 (pc := 0) C dX7_keep_0 ?_
    refine ax_getI (pc := 1) C fX7_190 dX7_keep_1 rfl rfl ?_
    refine ax_bipush (pc := 4) (v := 24) C dX7_keep_4 (by decide) ?_
    refine ax_icmp_ne (pc := 6) (tgt := 49) C dX7_keep_6 (by decide) (fun z => False.elim (z (by rw [hm, hm24]; rfl))) (fun _ => ?_)
    refine ax_iconst (pc := 9) (v := 0) C dX7_keep_9 (by decide) ?_
    refine ax_istore_1 (pc := 10) C dX7_keep_10 rfl ?_
    exact ax_Seq shd_0.symm (loop1 1013 0 (by omega) (by omega))
  ·
    have loop2 : ∀ (q : Nat) (k : Nat), k ≤ 44 → 44 < k + q → ax_S x Y ad 0 0 (ax_Q x Y ad none 96 (ax_g Y ad (mk_keep σ m)) 0 0) (cpn σ 81 0 83 (44 * (m)) k) 51 [some (.ref (ad 77)), some (.int (nI k))] [] := by
      intro q
      induction q with
      | zero => intro k h1 h2; exfalso; omega
      | succ q ih =>
        intro k h1 h2
        refine ax_iload_1 (pc := 51) C dX7_keep_51 ?_
        refine ax_bipush (pc := 52) (v := 44) C dX7_keep_52 (by decide) ?_
        refine ax_icmp_ge (pc := 54) (tgt := 83) C dX7_keep_54 (by decide) (fun h54 => ?_) (fun h54 => ?_)
        · have hk54 : ¬ k < 44 := fun z => nI_ge (a := k) (b := 44) z (by decide) h54
          refine ax_aload_0 (pc := 83) C dX7_keep_83 ?_
          refine ax_dup (pc := 84) C dX7_keep_84 rfl ?_
          refine ax_getI (pc := 85) C fX7_190 dX7_keep_85 rfl rfl ?_
          refine ax_iconst (pc := 88) (v := 1) C dX7_keep_88 (by decide) ?_
          refine ax_iadd (pc := 89) C dX7_keep_89 ?_
          refine ax_val C (show _ = nI (m + 1) by rw [cpn_ne (by decide), hm, nI_1]) ?_
          refine ax_putI (pc := 90) C fX7_190 dX7_keep_90 rfl rfl rfl rfl ?_
          exact ax_vr (pc := 93) C rfl dX7_keep_93 (by rw [mk_keep, if_neg hm24, show k = 44 by omega]; rfl)
        · have hk54 : k < 44 := Nat.lt_of_not_le (fun z => h54 (nI_le (a := 44) z (by omega)))
          refine ax_aload_0 (pc := 57) C dX7_keep_57 ?_
          refine ax_getR (pc := 58) C fX7_25 dX7_keep_58 rfl rfl ?_
          refine ax_bipush (pc := 61) (v := 44) C dX7_keep_61 (by decide) ?_
          refine ax_aload_0 (pc := 63) C dX7_keep_63 ?_
          refine ax_getI (pc := 64) C fX7_190 dX7_keep_64 rfl rfl ?_
          refine ax_imul (pc := 67) C dX7_keep_67 ?_
          refine ax_iload_1 (pc := 68) C dX7_keep_68 ?_
          refine ax_iadd (pc := 69) C dX7_keep_69 ?_
          refine ax_aload_0 (pc := 70) C dX7_keep_70 ?_
          refine ax_getR (pc := 71) C fX7_19 dX7_keep_71 rfl rfl ?_
          refine ax_iload_1 (pc := 74) C dX7_keep_74 ?_
          refine ax_ian (pc := 75) C dX7_keep_75 rfl (by omega) (by omega) ?_
          refine ax_ise (pc := 76) (c := 44 * (m) + k) C dX7_keep_76 rfl (show (44 : Int32) * cpn σ 81 0 83 (44 * (m)) k 77 9 + nI k = nI (44 * (m) + k) by rw [cpn_ne (by decide), hm]; exact ix44) (by omega) (by decide) ?_
          refine ax_iinc_1 (pc := 77) C dX7_keep_77 (1) (by decide) rfl ?_
          refine ax_goto (pc := 80) (tgt := 51) C dX7_keep_80 (by decide) ?_
          refine ax_SLeq ?_ (by rw [nI_1]) (ih (k + 1) (by omega) (by omega))
          have e := cpn_s (σ := σ) (k1 := 81) (s := 0) (k2 := 83) (d := 44 * (m)) (n := k) (by decide)
          rw [Nat.zero_add] at e
          exact e
    refine ax_aload_0 (pc := 0) C dX7_keep_0 ?_
    refine ax_getI (pc := 1) C fX7_190 dX7_keep_1 rfl rfl ?_
    refine ax_bipush (pc := 4) (v := 24) C dX7_keep_4 (by decide) ?_
    refine ax_icmp_ne (pc := 6) (tgt := 49) C dX7_keep_6 (by decide) (fun _ => ?_) (fun z => False.elim (hm24 ((nI_eq (by omega) (by omega)).mp (show nI m = nI 24 by rw [← hm]; exact z))))
    refine ax_iconst (pc := 49) (v := 0) C dX7_keep_49 (by decide) ?_
    refine ax_istore_1 (pc := 50) C dX7_keep_50 rfl ?_
    exact ax_Seq cpn_0.symm (loop2 45 0 (by omega) (by omega))
