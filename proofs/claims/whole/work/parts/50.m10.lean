def mo_is (a b : Int32) : Bool := decide (b = 0) || decide (a = b) || (decide (b = 1) && decide (a < 4)) || (decide (b = 4) && decide (a = 5))
set_option maxRecDepth 20000 in
set_option maxHeartbeats 4000000 in
theorem w_X7_isOf {Y : ax_Y} {ad : Nat → Nat} (F : ax_F Y) {l : Launch} {σ : ax_Z} {a b : Int32} : ax_m Y ad l iX7_isOf 0 σ [.int a, .int b] (some (.int (ax_b (mo_is a b = true)))) σ := by
  refine ax_m.of F kX7_isOf.1 [some (.int (a)), some (.int (b))] rfl (Nat.le_of_ble_eq_true rfl) (fun x C => ?_)
  refine ax_iload_1 (pc := 0) C dX7_isOf_0 ?_
  refine ax_if_eq (pc := 1) (tgt := 29) C dX7_isOf_1 (by decide) (fun h1 => ?_) (fun h1 => ?_)
  · refine ax_iconst (pc := 29) (v := 1) C dX7_isOf_29 (by decide) ?_
    refine ax_goto (pc := 30) (tgt := 34) C dX7_isOf_30 (by decide) ?_
    exact ax_zr (pc := 34) C rfl (by first | rfl | (unfold ax_b; split <;> rfl)) dX7_isOf_34 (by simp_all [mo_is, ax_b, ← Int32.not_lt]) rfl
  · refine ax_iload_0 (pc := 4) C dX7_isOf_4 ?_
    refine ax_iload_1 (pc := 5) C dX7_isOf_5 ?_
    refine ax_icmp_eq (pc := 6) (tgt := 29) C dX7_isOf_6 (by decide) (fun h6 => ?_) (fun h6 => ?_)
    · refine ax_iconst (pc := 29) (v := 1) C dX7_isOf_29 (by decide) ?_
      refine ax_goto (pc := 30) (tgt := 34) C dX7_isOf_30 (by decide) ?_
      exact ax_zr (pc := 34) C rfl (by first | rfl | (unfold ax_b; split <;> rfl)) dX7_isOf_34 (by simp_all [mo_is, ax_b, ← Int32.not_lt]) rfl
    · refine ax_iload_1 (pc := 9) C dX7_isOf_9 ?_
      refine ax_iconst (pc := 10) (v := 1) C dX7_isOf_10 (by decide) ?_
      refine ax_icmp_ne (pc := 11) (tgt := 19) C dX7_isOf_11 (by decide) (fun h11 => ?_) (fun h11 => ?_)
      · refine ax_iload_1 (pc := 19) C dX7_isOf_19 ?_
        refine ax_iconst (pc := 20) (v := 4) C dX7_isOf_20 (by decide) ?_
        refine ax_icmp_ne (pc := 21) (tgt := 33) C dX7_isOf_21 (by decide) (fun h21 => ?_) (fun h21 => ?_)
        · refine ax_iconst (pc := 33) (v := 0) C dX7_isOf_33 (by decide) ?_
          exact ax_zr (pc := 34) C rfl (by first | rfl | (unfold ax_b; split <;> rfl)) dX7_isOf_34 (by simp_all [mo_is, ax_b, ← Int32.not_lt]) rfl
        · refine ax_iload_0 (pc := 24) C dX7_isOf_24 ?_
          refine ax_iconst (pc := 25) (v := 5) C dX7_isOf_25 (by decide) ?_
          refine ax_icmp_ne (pc := 26) (tgt := 33) C dX7_isOf_26 (by decide) (fun h26 => ?_) (fun h26 => ?_)
          · refine ax_iconst (pc := 33) (v := 0) C dX7_isOf_33 (by decide) ?_
            exact ax_zr (pc := 34) C rfl (by first | rfl | (unfold ax_b; split <;> rfl)) dX7_isOf_34 (by simp_all [mo_is, ax_b, ← Int32.not_lt]) rfl
          · refine ax_iconst (pc := 29) (v := 1) C dX7_isOf_29 (by decide) ?_
            refine ax_goto (pc := 30) (tgt := 34) C dX7_isOf_30 (by decide) ?_
            exact ax_zr (pc := 34) C rfl (by first | rfl | (unfold ax_b; split <;> rfl)) dX7_isOf_34 (by simp_all [mo_is, ax_b, ← Int32.not_lt]) rfl
      · refine ax_iload_0 (pc := 14) C dX7_isOf_14 ?_
        refine ax_iconst (pc := 15) (v := 4) C dX7_isOf_15 (by decide) ?_
        refine ax_icmp_lt (pc := 16) (tgt := 29) C dX7_isOf_16 (by decide) (fun h16 => ?_) (fun h16 => ?_)
        · refine ax_iconst (pc := 29) (v := 1) C dX7_isOf_29 (by decide) ?_
          refine ax_goto (pc := 30) (tgt := 34) C dX7_isOf_30 (by decide) ?_
          exact ax_zr (pc := 34) C rfl (by first | rfl | (unfold ax_b; split <;> rfl)) dX7_isOf_34 (by simp_all [mo_is, ax_b, ← Int32.not_lt]) rfl
        · refine ax_iload_1 (pc := 19) C dX7_isOf_19 ?_
          refine ax_iconst (pc := 20) (v := 4) C dX7_isOf_20 (by decide) ?_
          refine ax_icmp_ne (pc := 21) (tgt := 33) C dX7_isOf_21 (by decide) (fun h21 => ?_) (fun h21 => ?_)
          · refine ax_iconst (pc := 33) (v := 0) C dX7_isOf_33 (by decide) ?_
            exact ax_zr (pc := 34) C rfl (by first | rfl | (unfold ax_b; split <;> rfl)) dX7_isOf_34 (by simp_all [mo_is, ax_b, ← Int32.not_lt]) rfl
          · refine ax_iload_0 (pc := 24) C dX7_isOf_24 ?_
            refine ax_iconst (pc := 25) (v := 5) C dX7_isOf_25 (by decide) ?_
            refine ax_icmp_ne (pc := 26) (tgt := 33) C dX7_isOf_26 (by decide) (fun h26 => ?_) (fun h26 => ?_)
            · refine ax_iconst (pc := 33) (v := 0) C dX7_isOf_33 (by decide) ?_
              exact ax_zr (pc := 34) C rfl (by first | rfl | (unfold ax_b; split <;> rfl)) dX7_isOf_34 (by simp_all [mo_is, ax_b, ← Int32.not_lt]) rfl
            · refine ax_iconst (pc := 29) (v := 1) C dX7_isOf_29 (by decide) ?_
              refine ax_goto (pc := 30) (tgt := 34) C dX7_isOf_30 (by decide) ?_
              exact ax_zr (pc := 34) C rfl (by first | rfl | (unfold ax_b; split <;> rfl)) dX7_isOf_34 (by simp_all [mo_is, ax_b, ← Int32.not_lt]) rfl

set_option maxRecDepth 20000 in
set_option maxHeartbeats 4000000 in
theorem w_X7_as {Y : ax_Y} {ad : Nat → Nat} (F : ax_F Y) {l : Launch} {σ : ax_Z} {n : Nat} (hn : σ 81 0 = nI n) (h6 : n ≤ 6) {cart k : Int32} : ax_m Y ad l iX7_as 2 σ [.ref (ad 77), .int cart, .int k] (some (.int (if (0 ≤ cart ∧ cart ≤ nI n - 1) ∧ (0 ≤ k ∧ k ≤ 5) then (if mo_is (σ 81 (8 + 6 * cart.toNatClampNeg + 0)) k = true then cart else -1000010 - 3) else -1000001))) (if (0 ≤ cart ∧ cart ≤ nI n - 1) ∧ (0 ≤ k ∧ k ≤ 5) then (if mo_is (σ 81 (8 + 6 * cart.toNatClampNeg + 0)) k = true then (ax_up (ax_up σ 77 0 0) 77 1 0) else ax_up (ax_up (ax_up σ 77 0 0) 77 1 0) 77 1 3) else (ax_up σ 77 0 0)) := by
  refine ax_m.of F kX7_as.1 [some (.ref (ad 77)), some (.int (cart)), some (.int (k))] rfl (Nat.le_of_ble_eq_true rfl) (fun x C => ?_)
  refine ax_aload_0 (pc := 0) C dX7_as_0 ?_
  refine ax_iconst (pc := 1) (v := 0) C dX7_as_1 (by decide) ?_
  refine ax_putI (pc := 2) C fX7_65 dX7_as_2 rfl rfl rfl rfl ?_
  refine ax_aload_0 (pc := 5) C dX7_as_5 ?_
  refine ax_iload_1 (pc := 6) C dX7_as_6 ?_
  refine ax_callVi (pc := 7) C (w_X7_isCart F (n := n) (by rw [up_ne (by decide)]; exact hn)) kX7_isCart mX7_230 dX7_as_7 (by decide) rfl rfl rfl rfl rfl (Nat.le_of_ble_eq_true rfl) rfl ⟨Nat.le_refl _, Nat.le_refl _⟩ ?_
  refine ax_if_eq (pc := 10) (tgt := 25) C dX7_as_10 (by decide) (fun h10 => ?_) (fun h10 => ?_)
  · have h10 := ax_beq h10
    refine ax_ldc (pc := 25) C dX7_as_25 qX7_85 ?_
    exact ax_ir (pc := 27) C rfl dX7_as_27 (by first | with_reducible rfl | (simp only [h10, if_true, if_false, true_and, and_true, false_and, and_false, not_false_eq_true, not_true_eq_false]; done) | (simp only [h10, if_true, if_false, true_and, and_true, false_and, and_false, not_false_eq_true, not_true_eq_false]; with_reducible rfl)) (by first | with_reducible rfl | (simp only [h10, if_true, if_false, true_and, and_true, false_and, and_false, not_false_eq_true, not_true_eq_false]; done) | (simp only [h10, if_true, if_false, true_and, and_true, false_and, and_false, not_false_eq_true, not_true_eq_false]; with_reducible rfl))
  · have h10 := ax_bne h10
    refine ax_iload_2 (pc := 13) C dX7_as_13 ?_
    refine ax_i2l (pc := 14) C dX7_as_14 ?_
    refine ax_lconst (pc := 15) (v := 0) C dX7_as_15 (by decide) ?_
    refine ax_ldc2 (pc := 16) C dX7_as_16 qX7_233 ?_
    refine ax_callSi (pc := 19) C (w_X7_in F (lo := (0)) (hi := (5)) rfl rfl) kX7_in mX7_75 dX7_as_19 (by decide) rfl rfl (Nat.le_of_ble_eq_true rfl) rfl ⟨Nat.le_refl _, Nat.le_refl _⟩ ?_
    refine ax_if_ne (pc := 22) (tgt := 28) C dX7_as_22 (by decide) (fun h22 => ?_) (fun h22 => ?_)
    · have h22 := ax_bne h22
      obtain ⟨c, hc, rfl⟩ := ax_ixN (by omega) h10
      have ec : (nI c).toNatClampNeg = c := nI_clamp (by omega)
      have hq := And.intro h10 h22
      simp only [if_pos hq, ec]
      refine ax_aload_0 (pc := 28) C dX7_as_28 ?_
      refine ax_iconst (pc := 29) (v := 0) C dX7_as_29 (by decide) ?_
      refine ax_putI (pc := 30) C fX7_69 dX7_as_30 rfl rfl rfl rfl ?_
      refine ax_aload_0 (pc := 33) C dX7_as_33 ?_
      refine ax_iload_1 (pc := 34) C dX7_as_34 ?_
      refine ax_iconst (pc := 35) (v := 0) C dX7_as_35 (by decide) ?_
      refine ax_callVi (pc := 36) C (w_X7_of F (k := 0) (by omega) (by decide)) kX7_of mX7_201 dX7_as_36 (by decide) rfl rfl rfl rfl rfl (Nat.le_of_ble_eq_true rfl) rfl ⟨Nat.le_refl _, Nat.le_refl _⟩ ?_
      refine ax_val C (show _ = (σ 81 (8 + 6 * c + 0)) by rw [up_ne (by decide), up_ne (by decide)]) ?_
      refine ax_iload_2 (pc := 39) C dX7_as_39 ?_
      refine ax_callSi (pc := 40) C (w_X7_isOf F) kX7_isOf mX7_266 dX7_as_40 (by decide) rfl rfl (Nat.le_of_ble_eq_true rfl) rfl ⟨Nat.le_refl _, Nat.le_refl _⟩ ?_
      refine ax_if_eq (pc := 43) (tgt := 50) C dX7_as_43 (by decide) (fun h43 => ?_) (fun h43 => ?_)
      · have h43 := ax_beq h43
        refine ax_aload_0 (pc := 50) C dX7_as_50 ?_
        refine ax_iconst (pc := 51) (v := 3) C dX7_as_51 (by decide) ?_
        refine ax_callVi (pc := 52) C (w_X7_finding F) kX7_finding mX7_86 dX7_as_52 (by decide) rfl rfl rfl rfl rfl (Nat.le_of_ble_eq_true rfl) rfl ⟨Nat.le_refl _, Nat.le_refl _⟩ ?_
        exact ax_ir (pc := 55) C rfl dX7_as_55 (by rw [if_neg h43]) (by rw [if_neg h43])
      · have h43 := ax_bne h43
        refine ax_iload_1 (pc := 46) C dX7_as_46 ?_
        refine ax_goto (pc := 47) (tgt := 55) C dX7_as_47 (by decide) ?_
        exact ax_ir (pc := 55) C rfl dX7_as_55 (by rw [if_pos h43]) (by rw [if_pos h43])
    · have h22 := ax_beq h22
      refine ax_ldc (pc := 25) C dX7_as_25 qX7_85 ?_
      exact ax_ir (pc := 27) C rfl dX7_as_27 (by first | with_reducible rfl | (simp only [h10, h22, if_true, if_false, true_and, and_true, false_and, and_false, not_false_eq_true, not_true_eq_false]; done) | (simp only [h10, h22, if_true, if_false, true_and, and_true, false_and, and_false, not_false_eq_true, not_true_eq_false]; with_reducible rfl)) (by first | with_reducible rfl | (simp only [h10, h22, if_true, if_false, true_and, and_true, false_and, and_false, not_false_eq_true, not_true_eq_false]; done) | (simp only [h10, h22, if_true, if_false, true_and, and_true, false_and, and_false, not_false_eq_true, not_true_eq_false]; with_reducible rfl))

set_option maxRecDepth 20000 in
set_option maxHeartbeats 4000000 in
theorem w_X7_byteAt {Y : ax_Y} {ad : Nat → Nat} (F : ax_F Y) {l : Launch} {σ : ax_Z} {m i : Nat} (hm : σ 77 13 = nI m) (h4 : m ≤ 400) (hi : i < 2 ^ 31) : ax_m Y ad l iX7_byteAt 0 σ [.ref (ad 77), .int (nI i)] (some (.int (if i < m then σ 84 i else -1000000))) σ := by
  refine ax_m.of F kX7_byteAt.1 [some (.ref (ad 77)), some (.int (nI i))] rfl (Nat.le_of_ble_eq_true rfl) (fun x C => ?_)
  refine ax_iload_1 (pc := 0) C dX7_byteAt_0 ?_
  refine ax_aload_0 (pc := 1) C dX7_byteAt_1 ?_
  refine ax_getI (pc := 2) C fX7_98 dX7_byteAt_2 rfl rfl ?_
  refine ax_val C hm ?_
  refine ax_icmp_ge (pc := 5) (tgt := 17) C dX7_byteAt_5 (by decide) (fun h5 => ?_) (fun h5 => ?_)
  · have h5i : ¬ i < m := fun z => nI_ge z (by omega) h5
    refine ax_ldc (pc := 17) C dX7_byteAt_17 qX7_101 ?_
    exact ax_ir (pc := 19) C rfl dX7_byteAt_19 (by rw [if_neg h5i]) rfl
  · have h5i : i < m := Nat.lt_of_not_le (fun z => h5 (nI_le z (by omega)))
    refine ax_aload_0 (pc := 8) C dX7_byteAt_8 ?_
    refine ax_getR (pc := 9) C fX7_28 dX7_byteAt_9 rfl rfl ?_
    refine ax_iload_1 (pc := 12) C dX7_byteAt_12 ?_
    refine ax_ian (pc := 13) C dX7_byteAt_13 rfl (by omega) (by omega) ?_
    refine ax_goto (pc := 14) (tgt := 19) C dX7_byteAt_14 (by decide) ?_
    exact ax_ir (pc := 19) C rfl dX7_byteAt_19 (by rw [if_pos h5i]) rfl

set_option maxRecDepth 20000 in
set_option maxHeartbeats 4000000 in
theorem w_X7_isLetter {Y : ax_Y} {ad : Nat → Nat} (F : ax_F Y) {l : Launch} {σ : ax_Z} {v : Int32} : ax_m Y ad l iX7_isLetter 0 σ [.int v] (some (.int (ax_b (97 ≤ v ∧ v ≤ 122)))) σ := by
  refine ax_m.of F kX7_isLetter.1 [some (.int (v))] rfl (Nat.le_of_ble_eq_true rfl) (fun x C => ?_)
  refine ax_iload_0 (pc := 0) C dX7_isLetter_0 ?_
  refine ax_bipush (pc := 1) (v := 97) C dX7_isLetter_1 (by decide) ?_
  refine ax_icmp_lt (pc := 3) (tgt := 16) C dX7_isLetter_3 (by decide) (fun h3 => ?_) (fun h3 => ?_)
  · refine ax_iconst (pc := 16) (v := 0) C dX7_isLetter_16 (by decide) ?_
    exact ax_zr (pc := 17) C rfl (by first | rfl | (unfold ax_b; split <;> rfl)) dX7_isLetter_17 (ax_b0 (fun z => absurd z.1 (Int32.not_le.mpr h3))) rfl
  · refine ax_iload_0 (pc := 6) C dX7_isLetter_6 ?_
    refine ax_bipush (pc := 7) (v := 122) C dX7_isLetter_7 (by decide) ?_
    refine ax_icmp_gt (pc := 9) (tgt := 16) C dX7_isLetter_9 (by decide) (fun h9 => ?_) (fun h9 => ?_)
    · refine ax_iconst (pc := 16) (v := 0) C dX7_isLetter_16 (by decide) ?_
      exact ax_zr (pc := 17) C rfl (by first | rfl | (unfold ax_b; split <;> rfl)) dX7_isLetter_17 (ax_b0 (fun z => absurd z.2 (Int32.not_le.mpr h9))) rfl
    · refine ax_iconst (pc := 12) (v := 1) C dX7_isLetter_12 (by decide) ?_
      refine ax_goto (pc := 13) (tgt := 17) C dX7_isLetter_13 (by decide) ?_
      exact ax_zr (pc := 17) C rfl (by first | rfl | (unfold ax_b; split <;> rfl)) dX7_isLetter_17 (ax_b1 ⟨Int32.not_lt.mp h3, Int32.not_lt.mp h9⟩) rfl

set_option maxRecDepth 20000 in
set_option maxHeartbeats 4000000 in
theorem w_X7_isFigure {Y : ax_Y} {ad : Nat → Nat} (F : ax_F Y) {l : Launch} {σ : ax_Z} {v : Int32} : ax_m Y ad l iX7_isFigure 0 σ [.int v] (some (.int (ax_b (48 ≤ v ∧ v ≤ 57)))) σ := by
  refine ax_m.of F kX7_isFigure.1 [some (.int (v))] rfl (Nat.le_of_ble_eq_true rfl) (fun x C => ?_)
  refine ax_iload_0 (pc := 0) C dX7_isFigure_0 ?_
  refine ax_bipush (pc := 1) (v := 48) C dX7_isFigure_1 (by decide) ?_
  refine ax_icmp_lt (pc := 3) (tgt := 16) C dX7_isFigure_3 (by decide) (fun h3 => ?_) (fun h3 => ?_)
  · refine ax_iconst (pc := 16) (v := 0) C dX7_isFigure_16 (by decide) ?_
    exact ax_zr (pc := 17) C rfl (by first | rfl | (unfold ax_b; split <;> rfl)) dX7_isFigure_17 (ax_b0 (fun z => absurd z.1 (Int32.not_le.mpr h3))) rfl
  · refine ax_iload_0 (pc := 6) C dX7_isFigure_6 ?_
    refine ax_bipush (pc := 7) (v := 57) C dX7_isFigure_7 (by decide) ?_
    refine ax_icmp_gt (pc := 9) (tgt := 16) C dX7_isFigure_9 (by decide) (fun h9 => ?_) (fun h9 => ?_)
    · refine ax_iconst (pc := 16) (v := 0) C dX7_isFigure_16 (by decide) ?_
      exact ax_zr (pc := 17) C rfl (by first | rfl | (unfold ax_b; split <;> rfl)) dX7_isFigure_17 (ax_b0 (fun z => absurd z.2 (Int32.not_le.mpr h9))) rfl
    · refine ax_iconst (pc := 12) (v := 1) C dX7_isFigure_12 (by decide) ?_
      refine ax_goto (pc := 13) (tgt := 17) C dX7_isFigure_13 (by decide) ?_
      exact ax_zr (pc := 17) C rfl (by first | rfl | (unfold ax_b; split <;> rfl)) dX7_isFigure_17 (ax_b1 ⟨Int32.not_lt.mp h3, Int32.not_lt.mp h9⟩) rfl

set_option maxRecDepth 20000 in
set_option maxHeartbeats 4000000 in
theorem w_X7_bad {Y : ax_Y} {ad : Nat → Nat} (F : ax_F Y) {l : Launch} {σ : ax_Z} {b : Int32} : ax_m Y ad l iX7_bad 0 σ [.ref (ad 77), .int b] none (if σ 77 18 = 0 then ax_up (ax_up σ 77 18 b) 77 19 (σ 77 16) else σ) := by
  refine ax_m.of F kX7_bad.1 [some (.ref (ad 77)), some (.int (b))] rfl (Nat.le_of_ble_eq_true rfl) (fun x C => ?_)
  refine ax_aload_0 (pc := 0) C dX7_bad_0 ?_
  refine ax_getI (pc := 1) C fX7_123 dX7_bad_1 rfl rfl ?_
  refine ax_if_ne (pc := 4) (tgt := 20) C dX7_bad_4 (by decide) (fun h4 => ?_) (fun h4 => ?_)
  · exact ax_vr (pc := 20) C rfl dX7_bad_20 (by rw [if_neg h4])
  · refine ax_aload_0 (pc := 7) C dX7_bad_7 ?_
    refine ax_iload_1 (pc := 8) C dX7_bad_8 ?_
    refine ax_putI (pc := 9) C fX7_123 dX7_bad_9 rfl rfl rfl rfl ?_
    refine ax_aload_0 (pc := 12) C dX7_bad_12 ?_
    refine ax_aload_0 (pc := 13) C dX7_bad_13 ?_
    refine ax_getI (pc := 14) C fX7_108 dX7_bad_14 rfl rfl ?_
    refine ax_val C (show _ = σ 77 16 by rw [up_o (by decide)]) ?_
    refine ax_putI (pc := 17) C fX7_129 dX7_bad_17 rfl rfl rfl rfl ?_
    exact ax_vr (pc := 20) C rfl dX7_bad_20 (by rw [if_pos h4])
