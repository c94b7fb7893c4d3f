/-! counts, shares, copy, judge, rest of the reference -/
theorem ms_ok_0 {toll : Nat → Int32} {k : Nat} : hs_all (ms_ok toll k) 1 = true := by simp [hs_all, ms_ok]
theorem hs_all_s {f : Nat → Bool} {n : Nat} : hs_all f (n + 1) = (hs_all f n && f n) := rfl
/-- one sum behind another, over the carts of the pass -/
def mu_s (σ : ax_Z) : Nat → Int32
  | 0 => 0
  | m + 1 => mu_s σ m + σ 81 (8 + 6 * m + 5)
theorem lg_sum {u v w : Int32} : u.toInt64 + v.toInt64 ≤ w.toInt64 ↔ u.toInt + v.toInt ≤ w.toInt := by
  have h1 := Int32.le_toInt u
  have h2 := Int32.toInt_lt u
  have h3 := Int32.le_toInt v
  have h4 := Int32.toInt_lt v
  rw [Int64.le_iff_toInt_le, Int64.toInt_add, Int32.toInt_toInt64, Int32.toInt_toInt64, Int32.toInt_toInt64, Int.bmod_eq_of_le (by omega) (by omega)]
theorem ix40b {c u h : Nat} : (40 : Int32) * nI c + nI u + nI h = nI (40 * c + u + h) := by
  rw [ix40, nI_add]
theorem mj_ix {i n w : Int32} {len : Nat} (hw : w = nI len) (hl : len ≤ 40) (h0 : 0 ≤ i) (h1 : 0 ≤ n) (h : i.toInt + n.toInt ≤ w.toInt) : ∃ u v, i = nI u ∧ n = nI v ∧ u + v ≤ len := by
  have e1 := Int32.le_iff_toInt_le.mp h0
  have e2 := Int32.le_iff_toInt_le.mp h1
  have e0 : (0 : Int32).toInt = 0 := rfl
  have ew : w.toInt ≤ 40 := by
    rw [hw]
    exact Int32.le_iff_toInt_le.mp (nI_le (b := 40) hl (by decide))
  have e40 : (40 : Int32).toInt = 40 := rfl
  obtain ⟨u, hu, rfl⟩ := ax_ix (m := 40) (by decide) (show 0 ≤ i ∧ i ≤ 40 from ⟨h0, Int32.le_iff_toInt_le.mpr (by omega)⟩)
  obtain ⟨v, hv, rfl⟩ := ax_ix (m := 40) (by decide) (show 0 ≤ n ∧ n ≤ 40 from ⟨h1, Int32.le_iff_toInt_le.mpr (by omega)⟩)
  refine ⟨u, v, rfl, rfl, ?_⟩
  have t : ∀ x : Nat, x ≤ 40 → (nI x).toInt = x := by
    intro x hx
    have : ∀ y : Fin 41, (nI y.1).toInt = y.1 := by decide
    exact this ⟨x, by omega⟩
  rw [hw, t u hu, t v hv, t len hl] at h
  omega
theorem lg_sum12 {u w : Int32} : u.toInt64 + 12 ≤ w.toInt64 ↔ u.toInt + (12 : Int32).toInt ≤ w.toInt := by
  have e : (12 : Int64) = (12 : Int32).toInt64 := by decide
  rw [e]
  exact lg_sum

set_option maxRecDepth 20000 in
set_option maxHeartbeats 4000000 in
theorem w_X7_shares {Y : ax_Y} {ad : Nat → Nat} (F : ax_F Y) {l : Launch} {σ : ax_Z} {a b : Int32} : ax_m Y ad l iX7_shares 1 σ [.ref (ad 77), .int a, .int b] (some (.int (if (ax_up σ 77 0 0) 77 7 = 0 then -1000002 else if ((1 ≤ a ∧ a ≤ 6) ∧ -1 ≤ b) then (if b < 0 then ax_b (hs_all (ms_ok (fun t => (ax_up σ 77 0 0) 81 (2 + t)) a.toNatClampNeg) a.toNatClampNeg = true) else if b < a then (hs_toll (fun t => (ax_up σ 77 0 0) 81 (2 + t)) a.toNatClampNeg / nI a.toNatClampNeg + (if b < hs_toll (fun t => (ax_up σ 77 0 0) 81 (2 + t)) a.toNatClampNeg - hs_toll (fun t => (ax_up σ 77 0 0) 81 (2 + t)) a.toNatClampNeg / nI a.toNatClampNeg * nI a.toNatClampNeg then 1 else 0)) else -1000000) else -1000001))) (ax_up σ 77 0 0) := by
  refine ax_m.of F kX7_shares.1 [some (.ref (ad 77)), some (.int (a)), some (.int (b)), none, none, none, none] rfl (Nat.le_of_ble_eq_true rfl) (fun x C => ?_)
  refine ax_aload_0 (pc := 0) C dX7_shares_0 ?_
  refine ax_iconst (pc := 1) (v := 0) C dX7_shares_1 (by decide) ?_
  refine ax_putI (pc := 2) C fX7_65 dX7_shares_2 rfl rfl rfl rfl ?_
  refine ax_aload_0 (pc := 5) C dX7_shares_5 ?_
  refine ax_getI (pc := 6) C fX7_186 dX7_shares_6 rfl rfl ?_
  refine ax_if_ne (pc := 9) (tgt := 15) C dX7_shares_9 (by decide) (fun h9 => ?_) (fun h9 => ?_)
  · refine ax_iload_1 (pc := 15) C dX7_shares_15 ?_
    refine ax_i2l (pc := 16) C dX7_shares_16 ?_
    refine ax_lconst (pc := 17) (v := 1) C dX7_shares_17 (by decide) ?_
    refine ax_ldc2 (pc := 18) C dX7_shares_18 qX7_254 ?_
    refine ax_callSi (pc := 21) C (w_X7_in F (lo := (1)) (hi := (6)) rfl rfl) kX7_in mX7_75 dX7_shares_21 (by decide) rfl rfl (Nat.le_of_ble_eq_true rfl) rfl ⟨Nat.le_refl _, Nat.le_refl _⟩ ?_
    refine ax_if_eq (pc := 24) (tgt := 32) C dX7_shares_24 (by decide) (fun h24 => ?_) (fun h24 => ?_)
    · have h24 := ax_beq h24
      refine ax_ldc (pc := 32) C dX7_shares_32 qX7_85 ?_
      exact ax_ir (pc := 34) C rfl dX7_shares_34 (by rw [if_neg h9, if_neg (fun z => h24 z.1)]) rfl
    · have h24 := ax_bne h24
      refine ax_iload_2 (pc := 27) C dX7_shares_27 ?_
      refine ax_iconst (pc := 28) (v := (-1)) C dX7_shares_28 (by decide) ?_
      refine ax_icmp_ge (pc := 29) (tgt := 35) C dX7_shares_29 (by decide) (fun h29 => ?_) (fun h29 => ?_)
      · obtain ⟨A, hA, rfl⟩ := ax_ix (m := 6) (by decide) (show 0 ≤ a ∧ a ≤ 6 from ⟨Int32.le_trans (by decide) h24.1, h24.2⟩)
        have eA : (nI A).toNatClampNeg = A := nI_clamp (by omega)
        have hA1 : 1 ≤ A := (nI_leI (a := 1) (by decide) (by omega)).mp h24.1
        have hA0 : ¬ nI A = 0 := nI_ne0 (by omega) (by omega)
        have hq := And.intro h24 h29
        simp only [if_neg h9, if_pos hq, eA]
        refine ax_aload_0 (pc := 35) C dX7_shares_35 ?_
        refine ax_iload_1 (pc := 36) C dX7_shares_36 ?_
        refine ax_callVi (pc := 37) C (w_X7_tollFor F (by omega) (by omega)) kX7_tollFor mX7_217 dX7_shares_37 (by decide) rfl rfl rfl rfl rfl (Nat.le_of_ble_eq_true rfl) rfl ⟨Nat.le_refl _, Nat.le_refl _⟩ ?_
        refine ax_istore_3 (pc := 40) C dX7_shares_40 rfl ?_
        refine ax_iload_2 (pc := 41) C dX7_shares_41 ?_
        refine ax_if_lt (pc := 42) (tgt := 62) C dX7_shares_42 (by decide) (fun h42 => ?_) (fun h42 => ?_)
        · rw [if_pos h42]
          refine ax_iconst (pc := 62) (v := 0) C dX7_shares_62 (by decide) ?_
          refine ax_istore_4 (pc := 63) C dX7_shares_63 rfl ?_
          refine ax_iconst (pc := 65) (v := 1) C dX7_shares_65 (by decide) ?_
          refine ax_istore_5 (pc := 66) C dX7_shares_66 rfl ?_
          refine ax_iconst (pc := 68) (v := 1) C dX7_shares_68 (by decide) ?_
          refine ax_istore_6 (pc := 69) C dX7_shares_69 rfl ?_
          have loop : ∀ (q : Nat) (m : Nat), m + 1 ≤ A → A < m + 1 + q → ax_S x Y ad 0 0 (ax_Q x Y ad (some (.int (ax_b (hs_all (ms_ok (fun t => (ax_up σ 77 0 0) 81 (2 + t)) A) A = true)))) 96 (ax_g Y ad (ax_up σ 77 0 0)) 0 0) (ax_up σ 77 0 0) 71 [some (.ref (ad 77)), some (.int (nI A)), some (.int (b)), some (.int (hs_toll (fun t => (ax_up σ 77 0 0) 81 (2 + t)) A)), some (.int (ms_s (hs_toll (fun t => (ax_up σ 77 0 0) 81 (2 + t)) A) A m)), some (.int (ax_b (hs_all (ms_ok (fun t => (ax_up σ 77 0 0) 81 (2 + t)) A) (m + 1) = true))), some (.int (nI (m + 1)))] [] := by
            intro q
            induction q with
            | zero => intro m h1 h2; exfalso; omega
            | succ q ih =>
              intro m h1 h2
              refine ax_iload_6 (pc := 71) C dX7_shares_71 ?_
              refine ax_iload_1 (pc := 73) C dX7_shares_73 ?_
              refine ax_icmp_ge (pc := 74) (tgt := 120) C dX7_shares_74 (by decide) (fun h74 => ?_) (fun h74 => ?_)
              · have hm : ¬ m + 1 < A := fun z => nI_ge z (by omega) h74
                refine ax_iload_5 (pc := 120) C dX7_shares_120 ?_
                refine ax_if_eq (pc := 122) (tgt := 129) C dX7_shares_122 (by decide) (fun h122 => ?_) (fun h122 => ?_)
                · have h122 := ax_beq h122
                  refine ax_iconst (pc := 129) (v := 0) C dX7_shares_129 (by decide) ?_
                  exact ax_ir (pc := 130) C rfl dX7_shares_130 (by rw [show A = m + 1 by omega] at h122 ⊢; exact ax_b0 h122) rfl
                · have h122 := ax_bne h122
                  refine ax_iconst (pc := 125) (v := 1) C dX7_shares_125 (by decide) ?_
                  refine ax_goto (pc := 126) (tgt := 130) C dX7_shares_126 (by decide) ?_
                  exact ax_ir (pc := 130) C rfl dX7_shares_130 (by rw [show A = m + 1 by omega] at h122 ⊢; exact ax_b1 h122) rfl
              · have hm : m + 1 < A := Nat.lt_of_not_le (fun z => h74 (nI_le z (by omega)))
                refine ax_iload_4 (pc := 77) C dX7_shares_77 ?_
                refine ax_iload_3 (pc := 79) C dX7_shares_79 ?_
                refine ax_iload_1 (pc := 80) C dX7_shares_80 ?_
                refine ax_iload_6 (pc := 81) C dX7_shares_81 ?_
                refine ax_iconst (pc := 83) (v := 1) C dX7_shares_83 (by decide) ?_
                refine ax_isub (pc := 84) C dX7_shares_84 ?_
                refine ax_val C (nI_pred m) ?_
                refine ax_callSi (pc := 85) C (w_X7_part F hA0) kX7_part mX7_256 dX7_shares_85 (by decide) rfl rfl (Nat.le_of_ble_eq_true rfl) rfl ⟨Nat.le_refl _, Nat.le_refl _⟩ ?_
                refine ax_iadd (pc := 88) C dX7_shares_88 ?_
                refine ax_val C (show _ = ms_s (hs_toll (fun t => (ax_up σ 77 0 0) 81 (2 + t)) A) A (m + 1) from rfl) ?_
                refine ax_istore_4 (pc := 89) C dX7_shares_89 rfl ?_
                refine ax_iload_5 (pc := 91) C dX7_shares_91 ?_
                refine ax_if_eq (pc := 93) (tgt := 111) C dX7_shares_93 (by decide) (fun h93 => ?_) (fun h93 => ?_)
                · have h93 := ax_beq h93
                  refine ax_iconst (pc := 111) (v := 0) C dX7_shares_111 (by decide) ?_
                  refine ax_istore_5 (pc := 112) C dX7_shares_112 rfl ?_
                  refine ax_iinc_6 (pc := 114) C dX7_shares_114 (1) (by decide) rfl ?_
                  refine ax_goto (pc := 117) (tgt := 71) C dX7_shares_117 (by decide) ?_
                  have e := (show (0 : Int32) = ax_b (hs_all (ms_ok (fun t => (ax_up σ 77 0 0) 81 (2 + t)) A) (m + 1 + 1) = true) from (ax_b0 (fun z => h93 (by rw [hs_all_s, Bool.and_eq_true] at z; exact z.1))).symm)
                  refine ax_Leq (by rw [← e, nI_1]) (ih (m + 1) (by omega) (by omega))
                · have h93 := ax_bne h93
                  refine ax_iload_4 (pc := 96) C dX7_shares_96 ?_
                  refine ax_aload_0 (pc := 98) C dX7_shares_98 ?_
                  refine ax_iload_6 (pc := 99) C dX7_shares_99 ?_
                  refine ax_callVi (pc := 101) C (w_X7_tollFor F (by omega) (by omega)) kX7_tollFor mX7_217 dX7_shares_101 (by decide) rfl rfl rfl rfl rfl (Nat.le_of_ble_eq_true rfl) rfl ⟨Nat.le_refl _, Nat.le_refl _⟩ ?_
                  refine ax_icmp_gt (pc := 104) (tgt := 111) C dX7_shares_104 (by decide) (fun h104 => ?_) (fun h104 => ?_)
                  · refine ax_iconst (pc := 111) (v := 0) C dX7_shares_111 (by decide) ?_
                    refine ax_istore_5 (pc := 112) C dX7_shares_112 rfl ?_
                    refine ax_iinc_6 (pc := 114) C dX7_shares_114 (1) (by decide) rfl ?_
                    refine ax_goto (pc := 117) (tgt := 71) C dX7_shares_117 (by decide) ?_
                    have e := (show (0 : Int32) = ax_b (hs_all (ms_ok (fun t => (ax_up σ 77 0 0) 81 (2 + t)) A) (m + 1 + 1) = true) from (ax_b0 (fun z => by
                      rw [hs_all_s, Bool.and_eq_true] at z
                      have z2 := z.2
                      simp only [ms_ok, Bool.or_eq_true, decide_eq_true_eq] at z2
                      rcases z2 with z2 | z2
                      · omega
                      · exact absurd z2 (Int32.not_le.mpr h104))).symm)
                    refine ax_Leq (by rw [← e, nI_1]) (ih (m + 1) (by omega) (by omega))
                  · refine ax_iconst (pc := 107) (v := 1) C dX7_shares_107 (by decide) ?_
                    refine ax_goto (pc := 108) (tgt := 112) C dX7_shares_108 (by decide) ?_
                    refine ax_istore_5 (pc := 112) C dX7_shares_112 rfl ?_
                    refine ax_iinc_6 (pc := 114) C dX7_shares_114 (1) (by decide) rfl ?_
                    refine ax_goto (pc := 117) (tgt := 71) C dX7_shares_117 (by decide) ?_
                    have e := (show (1 : Int32) = ax_b (hs_all (ms_ok (fun t => (ax_up σ 77 0 0) 81 (2 + t)) A) (m + 1 + 1) = true) from (ax_b1 (by
                      rw [hs_all_s, Bool.and_eq_true]
                      refine ⟨h93, ?_⟩
                      simp only [ms_ok, Bool.or_eq_true, decide_eq_true_eq]
                      exact Or.inr (Int32.not_lt.mp h104))).symm)
                    refine ax_Leq (by rw [← e, nI_1]) (ih (m + 1) (by omega) (by omega))
          exact ax_Leq (by rw [ax_b1 ms_ok_0]; rfl) (loop A 0 (by omega) (by omega))
        · refine ax_iload_2 (pc := 45) C dX7_shares_45 ?_
          refine ax_iload_1 (pc := 46) C dX7_shares_46 ?_
          refine ax_icmp_ge (pc := 47) (tgt := 59) C dX7_shares_47 (by decide) (fun h47 => ?_) (fun h47 => ?_)
          · refine ax_ldc (pc := 59) C dX7_shares_59 qX7_101 ?_
            exact ax_ir (pc := 61) C rfl dX7_shares_61 (by rw [if_neg h42, if_neg (Int32.not_lt.mpr h47)]) rfl
          · refine ax_iload_3 (pc := 50) C dX7_shares_50 ?_
            refine ax_iload_1 (pc := 51) C dX7_shares_51 ?_
            refine ax_iload_2 (pc := 52) C dX7_shares_52 ?_
            refine ax_callSi (pc := 53) C (w_X7_part F hA0) kX7_part mX7_256 dX7_shares_53 (by decide) rfl rfl (Nat.le_of_ble_eq_true rfl) rfl ⟨Nat.le_refl _, Nat.le_refl _⟩ ?_
            refine ax_goto (pc := 56) (tgt := 61) C dX7_shares_56 (by decide) ?_
            exact ax_ir (pc := 61) C rfl dX7_shares_61 (by rw [if_neg h42, if_pos (Int32.not_le.mp h47)]) rfl
      · refine ax_ldc (pc := 32) C dX7_shares_32 qX7_85 ?_
        exact ax_ir (pc := 34) C rfl dX7_shares_34 (by rw [if_neg h9, if_neg (fun z => h29 z.2)]) rfl
  · refine ax_ldc (pc := 12) C dX7_shares_12 qX7_223 ?_
    exact ax_ir (pc := 14) C rfl dX7_shares_14 (by rw [if_pos h9]) rfl

set_option maxRecDepth 20000 in
set_option maxHeartbeats 4000000 in
theorem w_X7_count {Y : ax_Y} {ad : Nat → Nat} (F : ax_F Y) {l : Launch} {σ : ax_Z} {n : Nat} (hn : σ 81 0 = nI n) (h6 : n ≤ 6) {k : Int32} : ax_m Y ad l iX7_count 1 σ [.ref (ad 77), .int k] (some (.int (if k = 0 then nI (ms_c (fun r => decide (0 ≤ (ax_up σ 77 0 0) 78 r)) 8) else if k = 1 then (ax_up σ 77 0 0) 81 0 else if k = 2 then (ax_up σ 77 0 0) 81 1 else if k = 3 then nI (ms_c (fun c => decide (¬ (ax_up σ 77 0 0) 81 (8 + 6 * c + 4) = -1000000)) n) else if k = 4 then (ax_up σ 77 0 0) 77 9 else if k = 5 then mu_s (ax_up σ 77 0 0) n else if k = 6 then (ax_up σ 77 0 0) 77 11 else -1000001))) (ax_up σ 77 0 0) := by
  refine ax_m.of F kX7_count.1 [some (.ref (ad 77)), some (.int (k)), none, none] rfl (Nat.le_of_ble_eq_true rfl) (fun x C => ?_)
  refine ax_aload_0 (pc := 0) C dX7_count_0 ?_
  refine ax_iconst (pc := 1) (v := 0) C dX7_count_1 (by decide) ?_
  refine ax_putI (pc := 2) C fX7_65 dX7_count_2 rfl rfl rfl rfl ?_
  refine ax_iconst (pc := 5) (v := 0) C dX7_count_5 (by decide) ?_
  refine ax_istore_2 (pc := 6) C dX7_count_6 rfl ?_
  refine ax_iload_1 (pc := 7) C dX7_count_7 ?_
  rcases ax_sw7 k with rfl | rfl | rfl | rfl | rfl | rfl | rfl | hk
  · refine ax_tabIn (pc := 8) (off := 44) (tgt := 52) C dX7_count_8 (by decide) (by decide) (by decide) (by decide) ?_
    rw [if_pos rfl]
    have loop : ∀ (q : Nat) (m : Nat), m ≤ 8 → 8 < m + q → ax_S x Y ad 0 0 (ax_Q x Y ad (some (.int (nI (ms_c (fun r => decide (0 ≤ (ax_up σ 77 0 0) 78 r)) 8)))) 96 (ax_g Y ad (ax_up σ 77 0 0)) 0 0) (ax_up σ 77 0 0) 54 [some (.ref (ad 77)), some (.int (0)), some (.int (nI (ms_c (fun r => decide (0 ≤ (ax_up σ 77 0 0) 78 r)) m))), some (.int (nI m))] [] := by
      intro q
      induction q with
      | zero => intro m h1 h2; exfalso; omega
      | succ q ih =>
        intro m h1 h2
        refine ax_iload_3 (pc := 54) C dX7_count_54 ?_
        refine ax_bipush (pc := 55) (v := 8) C dX7_count_55 (by decide) ?_
        refine ax_icmp_ge (pc := 57) (tgt := 83) C dX7_count_57 (by decide) (fun h57 => ?_) (fun h57 => ?_)
        · have hm57 : ¬ m < 8 := fun z => nI_ge (a := m) (b := 8) z (by decide) h57
          refine ax_iload_2 (pc := 83) C dX7_count_83 ?_
          exact ax_ir (pc := 84) C rfl dX7_count_84 (by rw [show m = 8 by omega]) rfl
        · have hm57 : m < 8 := Nat.lt_of_not_le (fun z => h57 (nI_le (a := 8) z (by omega)))
          refine ax_iload_2 (pc := 60) C dX7_count_60 ?_
          refine ax_aload_0 (pc := 61) C dX7_count_61 ?_
          refine ax_getR (pc := 62) C fX7_7 dX7_count_62 rfl rfl ?_
          refine ax_iload_3 (pc := 65) C dX7_count_65 ?_
          refine ax_ian (pc := 66) C dX7_count_66 rfl (by omega) (by omega) ?_
          refine ax_if_lt (pc := 67) (tgt := 74) C dX7_count_67 (by decide) (fun h67 => ?_) (fun h67 => ?_)
          · refine ax_iconst (pc := 74) (v := 0) C dX7_count_74 (by decide) ?_
            refine ax_iadd (pc := 75) C dX7_count_75 ?_
            refine ax_istore_2 (pc := 76) C dX7_count_76 rfl ?_
            refine ax_iinc_3 (pc := 77) C dX7_count_77 (1) (by decide) rfl ?_
            refine ax_goto (pc := 80) (tgt := 54) C dX7_count_80 (by decide) ?_
            have ht : ¬ (fun r => decide (0 ≤ (ax_up σ 77 0 0) 78 r)) m = true := fun z => absurd (of_decide_eq_true z) (Int32.not_le.mpr h67)
            refine ax_Leq ?_ (ih (m + 1) (by omega) (by omega))
            rw [ms_c_s, if_neg ht, nI_1]
            simp only [Nat.add_zero, Int32.add_zero]
          · refine ax_iconst (pc := 70) (v := 1) C dX7_count_70 (by decide) ?_
            refine ax_goto (pc := 71) (tgt := 75) C dX7_count_71 (by decide) ?_
            refine ax_iadd (pc := 75) C dX7_count_75 ?_
            refine ax_istore_2 (pc := 76) C dX7_count_76 rfl ?_
            refine ax_iinc_3 (pc := 77) C dX7_count_77 (1) (by decide) rfl ?_
            refine ax_goto (pc := 80) (tgt := 54) C dX7_count_80 (by decide) ?_
            have ht : (fun r => decide (0 ≤ (ax_up σ 77 0 0) 78 r)) m = true := decide_eq_true (Int32.not_lt.mp h67)
            refine ax_Leq ?_ (ih (m + 1) (by omega) (by omega))
            rw [ms_c_s, if_pos ht, nI_1, nI_1]
    refine ax_iconst (pc := 52) (v := 0) C dX7_count_52 (by decide) ?_
    refine ax_istore_3 (pc := 53) C dX7_count_53 rfl ?_
    exact loop 9 0 (by omega) (by omega)
  · refine ax_tabIn (pc := 8) (off := 77) (tgt := 85) C dX7_count_8 (by decide) (by decide) (by decide) (by decide) ?_
    refine ax_aload_0 (pc := 85) C dX7_count_85 ?_
    refine ax_getR (pc := 86) C fX7_19 dX7_count_86 rfl rfl ?_
    refine ax_iconst (pc := 89) (v := 0) C dX7_count_89 (by decide) ?_
    refine ax_iae (pc := 90) (c := 0) C dX7_count_90 rfl rfl (by decide) (by decide) ?_
    exact ax_ir (pc := 91) C rfl dX7_count_91 rfl rfl
  · refine ax_tabIn (pc := 8) (off := 84) (tgt := 92) C dX7_count_8 (by decide) (by decide) (by decide) (by decide) ?_
    refine ax_aload_0 (pc := 92) C dX7_count_92 ?_
    refine ax_getR (pc := 93) C fX7_19 dX7_count_93 rfl rfl ?_
    refine ax_iconst (pc := 96) (v := 1) C dX7_count_96 (by decide) ?_
    refine ax_iae (pc := 97) (c := 1) C dX7_count_97 rfl rfl (by decide) (by decide) ?_
    exact ax_ir (pc := 98) C rfl dX7_count_98 rfl rfl
  · refine ax_tabIn (pc := 8) (off := 91) (tgt := 99) C dX7_count_8 (by decide) (by decide) (by decide) (by decide) ?_
    rw [if_neg (by decide), if_neg (by decide), if_neg (by decide), if_pos rfl]
    have loop : ∀ (q : Nat) (m : Nat), m ≤ n → n < m + q → ax_S x Y ad 0 0 (ax_Q x Y ad (some (.int (nI (ms_c (fun c => decide (¬ (ax_up σ 77 0 0) 81 (8 + 6 * c + 4) = -1000000)) n)))) 96 (ax_g Y ad (ax_up σ 77 0 0)) 0 0) (ax_up σ 77 0 0) 101 [some (.ref (ad 77)), some (.int (3)), some (.int (nI (ms_c (fun c => decide (¬ (ax_up σ 77 0 0) 81 (8 + 6 * c + 4) = -1000000)) m))), some (.int (nI m))] [] := by
      intro q
      induction q with
      | zero => intro m h1 h2; exfalso; omega
      | succ q ih =>
        intro m h1 h2
        refine ax_iload_3 (pc := 101) C dX7_count_101 ?_
        refine ax_aload_0 (pc := 102) C dX7_count_102 ?_
        refine ax_getR (pc := 103) C fX7_19 dX7_count_103 rfl rfl ?_
        refine ax_iconst (pc := 106) (v := 0) C dX7_count_106 (by decide) ?_
        refine ax_iae (pc := 107) (c := 0) C dX7_count_107 rfl rfl (by decide) (by decide) ?_
        refine ax_val C (show _ = nI n by rw [up_ne (by decide)]; exact hn) ?_
        refine ax_icmp_ge (pc := 108) (tgt := 150) C dX7_count_108 (by decide) (fun h108 => ?_) (fun h108 => ?_)
        · have hcn : ¬ m < n := fun q => nI_ge q (by omega) h108
          refine ax_iload_2 (pc := 150) C dX7_count_150 ?_
          exact ax_ir (pc := 151) C rfl dX7_count_151 (by rw [show m = n by omega]) rfl
        · have hcn : m < n := Nat.lt_of_not_le (fun q => h108 (nI_le q (by omega)))
          refine ax_iload_2 (pc := 111) C dX7_count_111 ?_
          refine ax_iload_1 (pc := 112) C dX7_count_112 ?_
          refine ax_iconst (pc := 113) (v := 5) C dX7_count_113 (by decide) ?_
          refine ax_icmp_ne (pc := 114) (tgt := 126) C dX7_count_114 (by decide) (fun _ => ?_) (fun z => False.elim (absurd z (by decide)))
          refine ax_aload_0 (pc := 126) C dX7_count_126 ?_
          refine ax_iload_3 (pc := 127) C dX7_count_127 ?_
          refine ax_iconst (pc := 128) (v := 4) C dX7_count_128 (by decide) ?_
          refine ax_callVi (pc := 129) C (w_X7_of F (k := 4) (by omega) (by decide)) kX7_of mX7_201 dX7_count_129 (by decide) rfl rfl rfl rfl rfl (Nat.le_of_ble_eq_true rfl) rfl ⟨Nat.le_refl _, Nat.le_refl _⟩ ?_
          refine ax_ldc (pc := 132) C dX7_count_132 qX7_101 ?_
          refine ax_icmp_eq (pc := 134) (tgt := 141) C dX7_count_134 (by decide) (fun h134 => ?_) (fun h134 => ?_)
          · refine ax_iconst (pc := 141) (v := 0) C dX7_count_141 (by decide) ?_
            refine ax_iadd (pc := 142) C dX7_count_142 ?_
            refine ax_istore_2 (pc := 143) C dX7_count_143 rfl ?_
            refine ax_iinc_3 (pc := 144) C dX7_count_144 (1) (by decide) rfl ?_
            refine ax_goto (pc := 147) (tgt := 101) C dX7_count_147 (by decide) ?_
            have ht : ¬ (fun c => decide (¬ (ax_up σ 77 0 0) 81 (8 + 6 * c + 4) = -1000000)) m = true := fun z => absurd h134 (of_decide_eq_true z)
            refine ax_Leq ?_ (ih (m + 1) (by omega) (by omega))
            rw [ms_c_s, if_neg ht, nI_1]
            simp only [Nat.add_zero, Int32.add_zero]
          · refine ax_iconst (pc := 137) (v := 1) C dX7_count_137 (by decide) ?_
            refine ax_goto (pc := 138) (tgt := 142) C dX7_count_138 (by decide) ?_
            refine ax_iadd (pc := 142) C dX7_count_142 ?_
            refine ax_istore_2 (pc := 143) C dX7_count_143 rfl ?_
            refine ax_iinc_3 (pc := 144) C dX7_count_144 (1) (by decide) rfl ?_
            refine ax_goto (pc := 147) (tgt := 101) C dX7_count_147 (by decide) ?_
            have ht : (fun c => decide (¬ (ax_up σ 77 0 0) 81 (8 + 6 * c + 4) = -1000000)) m = true := decide_eq_true h134
            refine ax_Leq ?_ (ih (m + 1) (by omega) (by omega))
            rw [ms_c_s, if_pos ht, nI_1, nI_1]
    refine ax_iconst (pc := 99) (v := 0) C dX7_count_99 (by decide) ?_
    refine ax_istore_3 (pc := 100) C dX7_count_100 rfl ?_
    exact loop (n + 1) 0 (by omega) (by omega)
  · refine ax_tabIn (pc := 8) (off := 144) (tgt := 152) C dX7_count_8 (by decide) (by decide) (by decide) (by decide) ?_
    refine ax_aload_0 (pc := 152) C dX7_count_152 ?_
    refine ax_getI (pc := 153) C fX7_190 dX7_count_153 rfl rfl ?_
    exact ax_ir (pc := 156) C rfl dX7_count_156 rfl rfl
  · refine ax_tabIn (pc := 8) (off := 91) (tgt := 99) C dX7_count_8 (by decide) (by decide) (by decide) (by decide) ?_
    rw [if_neg (by decide), if_neg (by decide), if_neg (by decide), if_neg (by decide), if_neg (by decide), if_pos rfl]
    have loop : ∀ (q : Nat) (m : Nat), m ≤ n → n < m + q → ax_S x Y ad 0 0 (ax_Q x Y ad (some (.int (mu_s (ax_up σ 77 0 0) n))) 96 (ax_g Y ad (ax_up σ 77 0 0)) 0 0) (ax_up σ 77 0 0) 101 [some (.ref (ad 77)), some (.int (5)), some (.int (mu_s (ax_up σ 77 0 0) m)), some (.int (nI m))] [] := by
      intro q
      induction q with
      | zero => intro m h1 h2; exfalso; omega
      | succ q ih =>
        intro m h1 h2
        refine ax_iload_3 (pc := 101) C dX7_count_101 ?_
        refine ax_aload_0 (pc := 102) C dX7_count_102 ?_
        refine ax_getR (pc := 103) C fX7_19 dX7_count_103 rfl rfl ?_
        refine ax_iconst (pc := 106) (v := 0) C dX7_count_106 (by decide) ?_
        refine ax_iae (pc := 107) (c := 0) C dX7_count_107 rfl rfl (by decide) (by decide) ?_
        refine ax_val C (show _ = nI n by rw [up_ne (by decide)]; exact hn) ?_
        refine ax_icmp_ge (pc := 108) (tgt := 150) C dX7_count_108 (by decide) (fun h108 => ?_) (fun h108 => ?_)
        · have hcn : ¬ m < n := fun q => nI_ge q (by omega) h108
          refine ax_iload_2 (pc := 150) C dX7_count_150 ?_
          exact ax_ir (pc := 151) C rfl dX7_count_151 (by rw [show m = n by omega]) rfl
        · have hcn : m < n := Nat.lt_of_not_le (fun q => h108 (nI_le q (by omega)))
          refine ax_iload_2 (pc := 111) C dX7_count_111 ?_
          refine ax_iload_1 (pc := 112) C dX7_count_112 ?_
          refine ax_iconst (pc := 113) (v := 5) C dX7_count_113 (by decide) ?_
          refine ax_icmp_ne (pc := 114) (tgt := 126) C dX7_count_114 (by decide) (fun z => False.elim (z rfl)) (fun _ => ?_)
          refine ax_aload_0 (pc := 117) C dX7_count_117 ?_
          refine ax_iload_3 (pc := 118) C dX7_count_118 ?_
          refine ax_iconst (pc := 119) (v := 5) C dX7_count_119 (by decide) ?_
          refine ax_callVi (pc := 120) C (w_X7_of F (k := 5) (by omega) (by decide)) kX7_of mX7_201 dX7_count_120 (by decide) rfl rfl rfl rfl rfl (Nat.le_of_ble_eq_true rfl) rfl ⟨Nat.le_refl _, Nat.le_refl _⟩ ?_
          refine ax_goto (pc := 123) (tgt := 142) C dX7_count_123 (by decide) ?_
          refine ax_iadd (pc := 142) C dX7_count_142 ?_
          refine ax_istore_2 (pc := 143) C dX7_count_143 rfl ?_
          refine ax_iinc_3 (pc := 144) C dX7_count_144 (1) (by decide) rfl ?_
          refine ax_goto (pc := 147) (tgt := 101) C dX7_count_147 (by decide) ?_
          refine ax_Leq (by rw [nI_1]; rfl) (ih (m + 1) (by omega) (by omega))
    refine ax_iconst (pc := 99) (v := 0) C dX7_count_99 (by decide) ?_
    refine ax_istore_3 (pc := 100) C dX7_count_100 rfl ?_
    exact loop (n + 1) 0 (by omega) (by omega)
  · refine ax_tabIn (pc := 8) (off := 149) (tgt := 157) C dX7_count_8 (by decide) (by decide) (by decide) (by decide) ?_
    refine ax_aload_0 (pc := 157) C dX7_count_157 ?_
    refine ax_getI (pc := 158) C fX7_92 dX7_count_158 rfl rfl ?_
    exact ax_ir (pc := 161) C rfl dX7_count_161 rfl rfl
  · obtain ⟨k0, k1, k2, k3, k4, k5, k6⟩ := ax_sw7_ne hk
    refine ax_tabOut (pc := 8) (tgt := 162) C dX7_count_8 hk (by decide) ?_
    refine ax_ldc (pc := 162) C dX7_count_162 qX7_85 ?_
    exact ax_ir (pc := 164) C rfl dX7_count_164 (by rw [if_neg k0, if_neg k1, if_neg k2, if_neg k3, if_neg k4, if_neg k5, if_neg k6]) rfl

set_option maxRecDepth 20000 in
set_option maxHeartbeats 4000000 in
theorem w_X7_judge {Y : ax_Y} {ad : Nat → Nat} (F : ax_F Y) {l : Launch} {σ : ax_Z} {n : Nat} (hn : σ 81 0 = nI n) (h6 : n ≤ 6) (hlen : ∀ c, c < 8 → ∃ len, len ≤ 40 ∧ σ 79 c = nI len) {row i : Int32} : ax_m Y ad l iX7_judge 5 σ [.ref (ad 77), .int row, .int i] (some (.int (if (ax_up σ 77 0 0) 77 7 = 0 then -1000002 else if 0 ≤ row ∧ row ≤ 7 then (if σ 78 row.toNatClampNeg < 0 then -1000010 - 1 else if (0 ≤ i ∧ i.toInt + (12 : Int32).toInt ≤ (σ 79 row.toNatClampNeg).toInt) then (if hs_all (fun h => decide (-1 ≤ σ 80 (40 * row.toNatClampNeg + i.toNatClampNeg + h) ∧ σ 80 (40 * row.toNatClampNeg + i.toNatClampNeg + h) ≤ nI n - 1)) 12 = true then ju_f (fun h => if σ 80 (40 * row.toNatClampNeg + i.toNatClampNeg + h) < 0 then decide ((md_go (ly_S (ax_up (ax_up σ 77 0 0) 77 1 0) n n) n) 91 h = -1000000) else decide ((md_go (ly_S (ax_up (ax_up σ 77 0 0) 77 1 0) n n) n) 91 h = σ 80 (40 * row.toNatClampNeg + i.toNatClampNeg + h))) 12 0 else -1000001) else -1000010 - 2) else -1000001))) (if (ax_up σ 77 0 0) 77 7 = 0 then (ax_up σ 77 0 0) else if 0 ≤ row ∧ row ≤ 7 then (if σ 78 row.toNatClampNeg < 0 then ax_up (ax_up σ 77 0 0) 77 1 1 else if (0 ≤ i ∧ i.toInt + (12 : Int32).toInt ≤ (σ 79 row.toNatClampNeg).toInt) then (if hs_all (fun h => decide (-1 ≤ σ 80 (40 * row.toNatClampNeg + i.toNatClampNeg + h) ∧ σ 80 (40 * row.toNatClampNeg + i.toNatClampNeg + h) ≤ nI n - 1)) 12 = true then (md_go (ly_S (ax_up (ax_up σ 77 0 0) 77 1 0) n n) n) else (ax_up σ 77 0 0)) else ax_up (ax_up σ 77 0 0) 77 1 2) else (ax_up σ 77 0 0)) := by
  refine ax_m.of F kX7_judge.1 [some (.ref (ad 77)), some (.int (row)), some (.int (i)), none, none] rfl (Nat.le_of_ble_eq_true rfl) (fun x C => ?_)
  refine ax_aload_0 (pc := 0) C dX7_judge_0 ?_
  refine ax_iconst (pc := 1) (v := 0) C dX7_judge_1 (by decide) ?_
  refine ax_putI (pc := 2) C fX7_65 dX7_judge_2 rfl rfl rfl rfl ?_
  refine ax_aload_0 (pc := 5) C dX7_judge_5 ?_
  refine ax_getI (pc := 6) C fX7_186 dX7_judge_6 rfl rfl ?_
  refine ax_if_ne (pc := 9) (tgt := 15) C dX7_judge_9 (by decide) (fun h9 => ?_) (fun h9 => ?_)
  · refine ax_iload_1 (pc := 15) C dX7_judge_15 ?_
    refine ax_callSi (pc := 16) C (w_X7_isRow F) kX7_isRow mX7_79 dX7_judge_16 (by decide) rfl rfl (Nat.le_of_ble_eq_true rfl) rfl ⟨Nat.le_refl _, Nat.le_refl _⟩ ?_
    refine ax_if_ne (pc := 19) (tgt := 25) C dX7_judge_19 (by decide) (fun h19 => ?_) (fun h19 => ?_)
    · have h19 := ax_bne h19
      obtain ⟨c, hc, rfl⟩ := ax_ix (m := 7) (by decide) h19
      have ec : (nI c).toNatClampNeg = c := nI_clamp (by omega)
      obtain ⟨len, hl1, hl2⟩ := hlen c (by omega)
      simp only [ec]
      refine ax_aload_0 (pc := 25) C dX7_judge_25 ?_
      refine ax_getR (pc := 26) C fX7_7 dX7_judge_26 rfl rfl ?_
      refine ax_iload_1 (pc := 29) C dX7_judge_29 ?_
      refine ax_ian (pc := 30) C dX7_judge_30 rfl (by omega) (by omega) ?_
      refine ax_val C (show _ = σ 78 c by rw [up_ne (by decide)]) ?_
      refine ax_if_ge (pc := 31) (tgt := 40) C dX7_judge_31 (by decide) (fun h31 => ?_) (fun h31 => ?_)
      · refine ax_iload_2 (pc := 40) C dX7_judge_40 ?_
        refine ax_if_lt (pc := 41) (tgt := 61) C dX7_judge_41 (by decide) (fun h41 => ?_) (fun h41 => ?_)
        · refine ax_aload_0 (pc := 61) C dX7_judge_61 ?_
          refine ax_iconst (pc := 62) (v := 2) C dX7_judge_62 (by decide) ?_
          refine ax_callVi (pc := 63) C (w_X7_finding F) kX7_finding mX7_86 dX7_judge_63 (by decide) rfl rfl rfl rfl rfl (Nat.le_of_ble_eq_true rfl) rfl ⟨Nat.le_refl _, Nat.le_refl _⟩ ?_
          exact ax_ir (pc := 66) C rfl dX7_judge_66 (by rw [if_neg h9, if_pos h19, if_neg (Int32.not_lt.mpr h31), if_neg (fun z => absurd z.1 (Int32.not_le.mpr h41))]) (by rw [if_neg h9, if_pos h19, if_neg (Int32.not_lt.mpr h31), if_neg (fun z => absurd z.1 (Int32.not_le.mpr h41))])
        · refine ax_iload_2 (pc := 44) C dX7_judge_44 ?_
          refine ax_i2l (pc := 45) C dX7_judge_45 ?_
          refine ax_ldc2 (pc := 46) C dX7_judge_46 qX7_241 ?_
          refine ax_ladd (pc := 49) C dX7_judge_49 ?_
          refine ax_aload_0 (pc := 50) C dX7_judge_50 ?_
          refine ax_getR (pc := 51) C fX7_13 dX7_judge_51 rfl rfl ?_
          refine ax_iload_1 (pc := 54) C dX7_judge_54 ?_
          refine ax_ian (pc := 55) C dX7_judge_55 rfl (by omega) (by omega) ?_
          refine ax_val C (show _ = σ 79 c by rw [up_ne (by decide)]) ?_
          refine ax_i2l (pc := 56) C dX7_judge_56 ?_
          refine ax_lcmp (pc := 57) C dX7_judge_57 ?_
          refine ax_if_le (pc := 58) (tgt := 67) C dX7_judge_58 (by decide) (fun h58 => ?_) (fun h58 => ?_)
          · have h58 := lg_sum12.mp ((lg_cmp_le _ _).mp h58)
            have hq := And.intro (Int32.not_lt.mp h41) h58
            obtain ⟨u, w, rfl, e1, hu⟩ := mj_ix (n := 12) hl2 hl1 (Int32.not_lt.mp h41) (by decide) h58
            have hw1 : w = 12 := by
              rcases Nat.lt_or_ge w 41 with z | z
              · exact ((nI_eq (a := 12) (by decide) (by omega)).mp e1).symm
              · omega
            subst hw1
            have eu : (nI u).toNatClampNeg = u := nI_clamp (by omega)
            simp only [eu, if_neg h9, if_pos h19, if_neg (Int32.not_lt.mpr h31), if_pos hq]
            refine ax_iconst (pc := 67) (v := 0) C dX7_judge_67 (by decide) ?_
            refine ax_istore_3 (pc := 68) C dX7_judge_68 rfl ?_
            have tl : hs_all (fun h => decide (-1 ≤ σ 80 (40 * c + u + h) ∧ σ 80 (40 * c + u + h) ≤ nI n - 1)) 12 = true → ax_S x Y ad 0 0 (ax_Q x Y ad (some (.int (if hs_all (fun h => decide (-1 ≤ σ 80 (40 * c + u + h) ∧ σ 80 (40 * c + u + h) ≤ nI n - 1)) 12 = true then ju_f (fun h => if σ 80 (40 * c + u + h) < 0 then decide ((md_go (ly_S (ax_up (ax_up σ 77 0 0) 77 1 0) n n) n) 91 h = -1000000) else decide ((md_go (ly_S (ax_up (ax_up σ 77 0 0) 77 1 0) n n) n) 91 h = σ 80 (40 * c + u + h))) 12 0 else -1000001))) 96 (ax_g Y ad (if hs_all (fun h => decide (-1 ≤ σ 80 (40 * c + u + h) ∧ σ 80 (40 * c + u + h) ≤ nI n - 1)) 12 = true then (md_go (ly_S (ax_up (ax_up σ 77 0 0) 77 1 0) n n) n) else (ax_up σ 77 0 0))) 0 0) (ax_up σ 77 0 0) 116 [some (.ref (ad 77)), some (.int (nI c)), some (.int (nI u)), some (.int (nI 12)), none] [] := by
              intro hal
              rw [if_pos hal, if_pos hal]
              have loop2 : ∀ (q : Nat) (k q0 : Nat) (z : Option Value), k + q0 = 12 → ju_f (fun h => if σ 80 (40 * c + u + h) < 0 then decide ((md_go (ly_S (ax_up (ax_up σ 77 0 0) 77 1 0) n n) n) 91 h = -1000000) else decide ((md_go (ly_S (ax_up (ax_up σ 77 0 0) 77 1 0) n n) n) 91 h = σ 80 (40 * c + u + h))) q0 k = ju_f (fun h => if σ 80 (40 * c + u + h) < 0 then decide ((md_go (ly_S (ax_up (ax_up σ 77 0 0) 77 1 0) n n) n) 91 h = -1000000) else decide ((md_go (ly_S (ax_up (ax_up σ 77 0 0) 77 1 0) n n) n) 91 h = σ 80 (40 * c + u + h))) 12 0 → q0 < q → ax_S x Y ad 0 0 (ax_Q x Y ad (some (.int (ju_f (fun h => if σ 80 (40 * c + u + h) < 0 then decide ((md_go (ly_S (ax_up (ax_up σ 77 0 0) 77 1 0) n n) n) 91 h = -1000000) else decide ((md_go (ly_S (ax_up (ax_up σ 77 0 0) 77 1 0) n n) n) 91 h = σ 80 (40 * c + u + h))) 12 0))) 96 (ax_g Y ad (md_go (ly_S (ax_up (ax_up σ 77 0 0) 77 1 0) n n) n)) 0 0) (md_go (ly_S (ax_up (ax_up σ 77 0 0) 77 1 0) n n) n) 131 [some (.ref (ad 77)), some (.int (nI c)), some (.int (nI u)), some (.int (nI k)), z] [] := by
                intro q
                induction q with
                | zero => intro k q0 z h1 hK h2; exfalso; omega
                | succ q ih =>
                  intro k q0 z h1 hK h2
                  refine ax_iload_3 (pc := 131) C dX7_judge_131 ?_
                  refine ax_bipush (pc := 132) (v := 11) C dX7_judge_132 (by decide) ?_
                  refine ax_icmp_gt (pc := 134) (tgt := 190) C dX7_judge_134 (by decide) (fun h134 => ?_) (fun h134 => ?_)
                  · have hk : ¬ k ≤ 11 := fun z => absurd (nI_le (b := 11) z (by decide)) (Int32.not_le.mpr h134)
                    refine ax_ldc (pc := 190) C dX7_judge_190 qX7_101 ?_
                    exact ax_ir (pc := 192) C rfl dX7_judge_192 (by rw [← hK, show q0 = 0 by omega]; rfl) rfl
                  · have hk : k ≤ 11 := Nat.le_of_not_lt (fun z => h134 (nI_lt (a := 11) z (by omega)))
                    obtain ⟨q1, rfl⟩ : ∃ q1, q0 = q1 + 1 := ⟨q0 - 1, by omega⟩
                    refine ax_aload_0 (pc := 137) C dX7_judge_137 ?_
                    refine ax_getR (pc := 138) C fX7_16 dX7_judge_138 rfl rfl ?_
                    refine ax_bipush (pc := 141) (v := 40) C dX7_judge_141 (by decide) ?_
                    refine ax_iload_1 (pc := 143) C dX7_judge_143 ?_
                    refine ax_imul (pc := 144) C dX7_judge_144 ?_
                    refine ax_iload_2 (pc := 145) C dX7_judge_145 ?_
                    refine ax_iadd (pc := 146) C dX7_judge_146 ?_
                    refine ax_iload_3 (pc := 147) C dX7_judge_147 ?_
                    refine ax_iadd (pc := 148) C dX7_judge_148 ?_
                    refine ax_iae (pc := 149) (c := 40 * c + u + k) C dX7_judge_149 rfl ix40b (by omega) (by decide) ?_
                    refine ax_val C (show _ = σ 80 (40 * c + u + k) by rw [md_go_ne (by decide), ly_ne (by decide) (by decide), up_ne (by decide), up_ne (by decide)]) ?_
                    refine ax_istore_4 (pc := 150) C dX7_judge_150 rfl ?_
                    refine ax_iload_4 (pc := 152) C dX7_judge_152 ?_
                    refine ax_if_ge (pc := 154) (tgt := 171) C dX7_judge_154 (by decide) (fun h154 => ?_) (fun h154 => ?_)
                    · refine ax_aload_0 (pc := 171) C dX7_judge_171 ?_
                      refine ax_getR (pc := 172) C fX7_49 dX7_judge_172 rfl rfl ?_
                      refine ax_iload_3 (pc := 175) C dX7_judge_175 ?_
                      refine ax_ian (pc := 176) C dX7_judge_176 rfl (by omega) (by omega) ?_
                      refine ax_iload_4 (pc := 177) C dX7_judge_177 ?_
                      refine ax_icmp_eq (pc := 179) (tgt := 184) C dX7_judge_179 (by decide) (fun h179 => ?_) (fun h179 => ?_)
                      · refine ax_iinc_3 (pc := 184) C dX7_judge_184 (1) (by decide) rfl ?_
                        refine ax_goto (pc := 187) (tgt := 131) C dX7_judge_187 (by decide) ?_
                        rw [ju_f, if_pos (by simp only [if_neg (Int32.not_lt.mpr h154), h179, decide_true])] at hK
                        refine ax_Leq (by rw [nI_1]) (ih (k + 1) q1 (some (.int (σ 80 (40 * c + u + k)))) (by omega) hK (by omega))
                      · refine ax_iload_3 (pc := 182) C dX7_judge_182 ?_
                        exact ax_ir (pc := 183) C rfl dX7_judge_183 (by rw [← hK, ju_f, if_neg (by simp only [if_neg (Int32.not_lt.mpr h154), h179, decide_false, Bool.false_eq_true, not_false_eq_true])]) rfl
                    · refine ax_aload_0 (pc := 157) C dX7_judge_157 ?_
                      refine ax_getR (pc := 158) C fX7_49 dX7_judge_158 rfl rfl ?_
                      refine ax_iload_3 (pc := 161) C dX7_judge_161 ?_
                      refine ax_ian (pc := 162) C dX7_judge_162 rfl (by omega) (by omega) ?_
                      refine ax_ldc (pc := 163) C dX7_judge_163 qX7_101 ?_
                      refine ax_icmp_eq (pc := 165) (tgt := 184) C dX7_judge_165 (by decide) (fun h165 => ?_) (fun h165 => ?_)
                      · refine ax_iinc_3 (pc := 184) C dX7_judge_184 (1) (by decide) rfl ?_
                        refine ax_goto (pc := 187) (tgt := 131) C dX7_judge_187 (by decide) ?_
                        rw [ju_f, if_pos (by simp only [if_pos (Int32.not_le.mp h154), h165, decide_true])] at hK
                        refine ax_Leq (by rw [nI_1]) (ih (k + 1) q1 (some (.int (σ 80 (40 * c + u + k)))) (by omega) hK (by omega))
                      · refine ax_goto (pc := 168) (tgt := 182) C dX7_judge_168 (by decide) ?_
                        refine ax_iload_3 (pc := 182) C dX7_judge_182 ?_
                        exact ax_ir (pc := 183) C rfl dX7_judge_183 (by rw [← hK, ju_f, if_neg (by simp only [if_pos (Int32.not_le.mp h154), h165, decide_false, Bool.false_eq_true, not_false_eq_true])]) rfl
              refine ax_aload_0 (pc := 116) C dX7_judge_116 ?_
              refine ax_iconst (pc := 117) (v := 0) C dX7_judge_117 (by decide) ?_
              refine ax_putI (pc := 118) C fX7_69 dX7_judge_118 rfl rfl rfl rfl ?_
              refine ax_aload_0 (pc := 121) C dX7_judge_121 ?_
              refine ax_callVv (pc := 122) C (w_X7_layNow F (n := n) (by rw [up_ne (by decide), up_ne (by decide)]; exact hn) h6) kX7_layNow mX7_227 dX7_judge_122 (by decide) rfl rfl rfl rfl rfl (Nat.le_of_ble_eq_true rfl) rfl ⟨Nat.le_refl _, Nat.le_refl _⟩ ?_
              refine ax_aload_0 (pc := 125) C dX7_judge_125 ?_
              refine ax_callVv (pc := 126) C (w_X7_goDay F (n := n) ly_20 (by omega)) kX7_goDay mX7_238 dX7_judge_126 (by decide) rfl rfl rfl rfl rfl (Nat.le_of_ble_eq_true rfl) rfl ⟨Nat.le_refl _, Nat.le_refl _⟩ ?_
              refine ax_iconst (pc := 129) (v := 0) C dX7_judge_129 (by decide) ?_
              refine ax_istore_3 (pc := 130) C dX7_judge_130 rfl ?_
              exact loop2 13 0 12 none rfl rfl (by decide)
            have loop : ∀ (q : Nat) (k : Nat), k ≤ 12 → hs_all (fun h => decide (-1 ≤ σ 80 (40 * c + u + h) ∧ σ 80 (40 * c + u + h) ≤ nI n - 1)) k = true → 12 < k + q → ax_S x Y ad 0 0 (ax_Q x Y ad (some (.int (if hs_all (fun h => decide (-1 ≤ σ 80 (40 * c + u + h) ∧ σ 80 (40 * c + u + h) ≤ nI n - 1)) 12 = true then ju_f (fun h => if σ 80 (40 * c + u + h) < 0 then decide ((md_go (ly_S (ax_up (ax_up σ 77 0 0) 77 1 0) n n) n) 91 h = -1000000) else decide ((md_go (ly_S (ax_up (ax_up σ 77 0 0) 77 1 0) n n) n) 91 h = σ 80 (40 * c + u + h))) 12 0 else -1000001))) 96 (ax_g Y ad (if hs_all (fun h => decide (-1 ≤ σ 80 (40 * c + u + h) ∧ σ 80 (40 * c + u + h) ≤ nI n - 1)) 12 = true then (md_go (ly_S (ax_up (ax_up σ 77 0 0) 77 1 0) n n) n) else (ax_up σ 77 0 0))) 0 0) (ax_up σ 77 0 0) 69 [some (.ref (ad 77)), some (.int (nI c)), some (.int (nI u)), some (.int (nI k)), none] [] := by
              intro q
              induction q with
              | zero => intro k h1 hal h2; exfalso; omega
              | succ q ih =>
                intro k h1 hal h2
                refine ax_iload_3 (pc := 69) C dX7_judge_69 ?_
                refine ax_bipush (pc := 70) (v := 11) C dX7_judge_70 (by decide) ?_
                refine ax_icmp_gt (pc := 72) (tgt := 116) C dX7_judge_72 (by decide) (fun h72 => ?_) (fun h72 => ?_)
                · have hk72 : ¬ k ≤ 11 := fun z => absurd (nI_le (b := 11) z (by decide)) (Int32.not_le.mpr h72)
                  have ek : k = 12 := by omega
                  subst ek
                  exact tl hal
                · have hk72 : k ≤ 11 := Nat.le_of_not_lt (fun z => h72 (nI_lt (a := 11) z (by omega)))
                  refine ax_aload_0 (pc := 75) C dX7_judge_75 ?_
                  refine ax_getR (pc := 76) C fX7_16 dX7_judge_76 rfl rfl ?_
                  refine ax_bipush (pc := 79) (v := 40) C dX7_judge_79 (by decide) ?_
                  refine ax_iload_1 (pc := 81) C dX7_judge_81 ?_
                  refine ax_imul (pc := 82) C dX7_judge_82 ?_
                  refine ax_iload_2 (pc := 83) C dX7_judge_83 ?_
                  refine ax_iadd (pc := 84) C dX7_judge_84 ?_
                  refine ax_iload_3 (pc := 85) C dX7_judge_85 ?_
                  refine ax_iadd (pc := 86) C dX7_judge_86 ?_
                  refine ax_iae (pc := 87) (c := 40 * c + u + k) C dX7_judge_87 rfl ix40b (by omega) (by decide) ?_
                  refine ax_val C (show _ = σ 80 (40 * c + u + k) by rw [up_ne (by decide)]) ?_
                  refine ax_i2l (pc := 88) C dX7_judge_88 ?_
                  refine ax_ldc2 (pc := 89) C dX7_judge_89 qX7_243 ?_
                  refine ax_aload_0 (pc := 92) C dX7_judge_92 ?_
                  refine ax_getR (pc := 93) C fX7_19 dX7_judge_93 rfl rfl ?_
                  refine ax_iconst (pc := 96) (v := 0) C dX7_judge_96 (by decide) ?_
                  refine ax_iae (pc := 97) (c := 0) C dX7_judge_97 rfl rfl (by decide) (by decide) ?_
                  refine ax_val C (show _ = nI n by rw [up_ne (by decide)]; exact hn) ?_
                  refine ax_iconst (pc := 98) (v := 1) C dX7_judge_98 (by decide) ?_
                  refine ax_isub (pc := 99) C dX7_judge_99 ?_
                  refine ax_i2l (pc := 100) C dX7_judge_100 ?_
                  refine ax_callSi (pc := 101) C (w_X7_in F (lo := (-1)) rfl rfl) kX7_in mX7_75 dX7_judge_101 (by decide) rfl rfl (Nat.le_of_ble_eq_true rfl) rfl ⟨Nat.le_refl _, Nat.le_refl _⟩ ?_
                  refine ax_if_ne (pc := 104) (tgt := 110) C dX7_judge_104 (by decide) (fun h104 => ?_) (fun h104 => ?_)
                  · have h104 := ax_bne h104
                    refine ax_iinc_3 (pc := 110) C dX7_judge_110 (1) (by decide) rfl ?_
                    refine ax_goto (pc := 113) (tgt := 69) C dX7_judge_113 (by decide) ?_
                    refine ax_Leq (by rw [nI_1]) (ih (k + 1) (by omega) (by rw [hs_all_s, hal]; exact decide_eq_true h104) (by omega))
                  · have h104 := ax_beq h104
                    refine ax_ldc (pc := 107) C dX7_judge_107 qX7_85 ?_
                    exact ax_ir (pc := 109) C rfl dX7_judge_109 (by rw [if_neg (by rw [hs_all_f (k := k) (by omega) (decide_eq_false h104)]; decide)]) (by rw [if_neg (by rw [hs_all_f (k := k) (by omega) (decide_eq_false h104)]; decide)])
            exact loop 13 0 (by omega) rfl (by omega)
          · refine ax_aload_0 (pc := 61) C dX7_judge_61 ?_
            refine ax_iconst (pc := 62) (v := 2) C dX7_judge_62 (by decide) ?_
            refine ax_callVi (pc := 63) C (w_X7_finding F) kX7_finding mX7_86 dX7_judge_63 (by decide) rfl rfl rfl rfl rfl (Nat.le_of_ble_eq_true rfl) rfl ⟨Nat.le_refl _, Nat.le_refl _⟩ ?_
            exact ax_ir (pc := 66) C rfl dX7_judge_66 (by rw [if_neg h9, if_pos h19, if_neg (Int32.not_lt.mpr h31), if_neg (fun z => h58 ((lg_cmp_le _ _).mpr (lg_sum12.mpr z.2)))]) (by rw [if_neg h9, if_pos h19, if_neg (Int32.not_lt.mpr h31), if_neg (fun z => h58 ((lg_cmp_le _ _).mpr (lg_sum12.mpr z.2)))])
      · refine ax_aload_0 (pc := 34) C dX7_judge_34 ?_
        refine ax_iconst (pc := 35) (v := 1) C dX7_judge_35 (by decide) ?_
        refine ax_callVi (pc := 36) C (w_X7_finding F) kX7_finding mX7_86 dX7_judge_36 (by decide) rfl rfl rfl rfl rfl (Nat.le_of_ble_eq_true rfl) rfl ⟨Nat.le_refl _, Nat.le_refl _⟩ ?_
        exact ax_ir (pc := 39) C rfl dX7_judge_39 (by rw [if_neg h9, if_pos h19, if_pos (Int32.not_le.mp h31)]) (by rw [if_neg h9, if_pos h19, if_pos (Int32.not_le.mp h31)])
    · have h19 := ax_beq h19
      refine ax_ldc (pc := 22) C dX7_judge_22 qX7_85 ?_
      exact ax_ir (pc := 24) C rfl dX7_judge_24 (by rw [if_neg h9, if_neg h19]) (by rw [if_neg h9, if_neg h19])
  · refine ax_ldc (pc := 12) C dX7_judge_12 qX7_223 ?_
    exact ax_ir (pc := 14) C rfl dX7_judge_14 (by rw [if_pos h9]) (by rw [if_pos h9])
