theorem ax_ix {v M : Int32} {m : Nat} (hM : M.toInt = m) (h : 0 ≤ v ∧ v ≤ M) : ∃ c, c ≤ m ∧ v = nI c := nI_of2 hM (Int32.not_lt.mpr h.1) h.2
theorem ax_ixN {v : Int32} {n : Nat} (hn : n < 2 ^ 30) (h : 0 ≤ v ∧ v ≤ nI n - 1) : ∃ c, c < n ∧ v = nI c := by
  have e : (nI n - 1).toInt = (n : Int) - 1 := pk_sub_toInt (b := 1) (by omega) (by decide)
  obtain ⟨j, hj, rfl⟩ := nI_of (Int32.not_lt.mpr h.1)
  refine ⟨j, ?_, rfl⟩
  have h2 := Int32.le_iff_toInt_le.mp h.2
  rw [e, nI_toInt hj] at h2
  omega
/-- places of a row -/
theorem ax_plc {L a n : Int32} {len : Nat} (hL : L = nI len) (hl : len ≤ 40) (h : 0 ≤ a ∧ 0 ≤ n ∧ a ≤ L ∧ n ≤ L - a) : ∃ u v, a = nI u ∧ n = nI v ∧ u + v ≤ len := by
  obtain ⟨h1, h2, h3, h4⟩ := h
  obtain ⟨u, hu, rfl⟩ := nI_of (Int32.not_lt.mpr h1)
  obtain ⟨v, hv, rfl⟩ := nI_of (Int32.not_lt.mpr h2)
  subst hL
  have h5 : u ≤ len := (nI_leI hu (by omega)).mp h3
  rw [pk_sub h5] at h4
  have h6 : v ≤ len - u := (nI_leI hv (by omega)).mp h4
  exact ⟨u, v, rfl, rfl, by omega⟩
theorem ax_plc' {L : Int32} {len u v : Nat} (hL : L = nI len) (hl : len ≤ 40) (h : u + v ≤ len) : 0 ≤ nI u ∧ 0 ≤ nI v ∧ nI u ≤ L ∧ nI v ≤ L - nI u := by
  subst hL
  refine ⟨nI_pos' (by omega), nI_pos' (by omega), nI_le (by omega) (by omega), ?_⟩
  rw [pk_sub (by omega)]
  exact nI_le (by omega) (by omega)
theorem w_X6_isCartN {Y : ax_Y} {ad : Nat → Nat} (F : ax_F Y) {l : Launch} {σ : ax_Z} {n : Nat} (hn : σ 14 10 = nI n) {v : Int32} : ax_m Y ad l iX6_isCart 1 σ [.ref (ad 0), .int v] (some (.int (ax_b (0 ≤ v ∧ v ≤ nI n - 1)))) σ := by
  have q := w_X6_isCart (ad := ad) F (l := l) (σ := σ) (v := v)
  rw [hn] at q
  exact q

set_option maxRecDepth 20000 in
set_option maxHeartbeats 4000000 in
theorem w_X6_row {Y : ax_Y} {ad : Nat → Nat} (F : ax_F Y) {l : Launch} {σ : ax_Z} {row lane n : Int32} : ax_m Y ad l iX6_row 2 σ [.ref (ad 0), .int row, .int lane, .int n] (some (.int (if ((0 ≤ row ∧ row ≤ 7) ∧ (0 ≤ lane ∧ lane ≤ 2) ∧ n ≤ 40) then (if n < 0 then -1000010 - 4 else n) else -1000001))) (if ((0 ≤ row ∧ row ≤ 7) ∧ (0 ≤ lane ∧ lane ≤ 2) ∧ n ≤ 40) then (if n < 0 then ax_up σ 0 8 4 else ax_up (ro_new σ row.toNatClampNeg lane n) 0 8 0) else σ) := by
  refine ax_m.of F kX6_row.1 [some (.ref (ad 0)), some (.int (row)), some (.int (lane)), some (.int (n))] rfl (Nat.le_of_ble_eq_true rfl) (fun x C => ?_)
  refine ax_iload_1 (pc := 0) C dX6_row_0 ?_
  refine ax_callSi (pc := 1) C (w_X6_isRow F) kX6_isRow mX6_55 dX6_row_1 (by decide) rfl rfl (Nat.le_of_ble_eq_true rfl) rfl ⟨Nat.le_refl _, Nat.le_refl _⟩ ?_
  refine ax_if_eq (pc := 4) (tgt := 22) C dX6_row_4 (by decide) (fun h4 => ?_) (fun h4 => ?_)
  · have h4 := ax_beq h4
    refine ax_ldc (pc := 22) C dX6_row_22 qX6_63 ?_
    exact ax_ir (pc := 24) C rfl dX6_row_24 (by first | rfl | (simp only [h4, if_true, if_false, true_and, and_true, false_and, and_false, not_false_eq_true, not_true_eq_false]; done) | (simp only [h4, if_true, if_false, true_and, and_true, false_and, and_false, not_false_eq_true, not_true_eq_false]; rfl)) (by first | rfl | (simp only [h4, if_true, if_false, true_and, and_true, false_and, and_false, not_false_eq_true, not_true_eq_false]; done) | (simp only [h4, if_true, if_false, true_and, and_true, false_and, and_false, not_false_eq_true, not_true_eq_false]; rfl))
  · have h4 := ax_bne h4
    refine ax_iload_2 (pc := 7) C dX6_row_7 ?_
    refine ax_iconst (pc := 8) (v := 0) C dX6_row_8 (by decide) ?_
    refine ax_iconst (pc := 9) (v := 2) C dX6_row_9 (by decide) ?_
    refine ax_callSi (pc := 10) C (w_X6_isWithin F) kX6_isWithin mX6_59 dX6_row_10 (by decide) rfl rfl (Nat.le_of_ble_eq_true rfl) rfl ⟨Nat.le_refl _, Nat.le_refl _⟩ ?_
    refine ax_if_eq (pc := 13) (tgt := 22) C dX6_row_13 (by decide) (fun h13 => ?_) (fun h13 => ?_)
    · have h13 := ax_beq h13
      refine ax_ldc (pc := 22) C dX6_row_22 qX6_63 ?_
      exact ax_ir (pc := 24) C rfl dX6_row_24 (by first | rfl | (simp only [h4, h13, if_true, if_false, true_and, and_true, false_and, and_false, not_false_eq_true, not_true_eq_false]; done) | (simp only [h4, h13, if_true, if_false, true_and, and_true, false_and, and_false, not_false_eq_true, not_true_eq_false]; rfl)) (by first | rfl | (simp only [h4, h13, if_true, if_false, true_and, and_true, false_and, and_false, not_false_eq_true, not_true_eq_false]; done) | (simp only [h4, h13, if_true, if_false, true_and, and_true, false_and, and_false, not_false_eq_true, not_true_eq_false]; rfl))
    · have h13 := ax_bne h13
      refine ax_iload_3 (pc := 16) C dX6_row_16 ?_
      refine ax_bipush (pc := 17) (v := 40) C dX6_row_17 (by decide) ?_
      refine ax_icmp_le (pc := 19) (tgt := 25) C dX6_row_19 (by decide) (fun h19 => ?_) (fun h19 => ?_)
      · refine ax_iload_3 (pc := 25) C dX6_row_25 ?_
        refine ax_if_ge (pc := 26) (tgt := 35) C dX6_row_26 (by decide) (fun h26 => ?_) (fun h26 => ?_)
        · obtain ⟨c, hc, rfl⟩ := ax_ix (m := 7) (by decide) h4
          have hc : c < 8 := by omega
          refine ax_aload_0 (pc := 35) C dX6_row_35 ?_
          refine ax_getR (pc := 36) C fX6_11 dX6_row_36 rfl rfl ?_
          refine ax_iload_1 (pc := 39) C dX6_row_39 ?_
          refine ax_rows (pc := 40) C dX6_row_40 hc ?_
          refine ax_iload_2 (pc := 41) C dX6_row_41 ?_
          refine ax_iload_3 (pc := 42) C dX6_row_42 ?_
          refine ax_callVv (pc := 43) C (w_X5_begin F hc) kX5_begin mX6_68 dX6_row_43 (by decide) rfl (ax_rowO hc) rfl rfl rfl (Nat.le_of_ble_eq_true rfl) rfl ⟨Nat.le_refl _, Nat.le_refl _⟩ ?_
          refine ax_aload_0 (pc := 46) C dX6_row_46 ?_
          refine ax_iconst (pc := 47) (v := 0) C dX6_row_47 (by decide) ?_
          refine ax_putI (pc := 48) C fX6_72 dX6_row_48 rfl rfl rfl rfl ?_
          refine ax_iload_3 (pc := 51) C dX6_row_51 ?_
          exact ax_ir (pc := 52) C rfl dX6_row_52 (by first | rfl | (simp only [h4, h13, h19, h26, if_true, if_false, true_and, and_true, false_and, and_false, not_false_eq_true, not_true_eq_false, nI_clamp (show c < 2 ^ 31 by omega), show ¬ n < 0 from Int32.not_lt.mpr h26]; done) | (simp only [h4, h13, h19, h26, if_true, if_false, true_and, and_true, false_and, and_false, not_false_eq_true, not_true_eq_false, nI_clamp (show c < 2 ^ 31 by omega), show ¬ n < 0 from Int32.not_lt.mpr h26]; rfl)) (by first | rfl | (simp only [h4, h13, h19, h26, if_true, if_false, true_and, and_true, false_and, and_false, not_false_eq_true, not_true_eq_false, nI_clamp (show c < 2 ^ 31 by omega), show ¬ n < 0 from Int32.not_lt.mpr h26]; done) | (simp only [h4, h13, h19, h26, if_true, if_false, true_and, and_true, false_and, and_false, not_false_eq_true, not_true_eq_false, nI_clamp (show c < 2 ^ 31 by omega), show ¬ n < 0 from Int32.not_lt.mpr h26]; rfl))
        · refine ax_aload_0 (pc := 29) C dX6_row_29 ?_
          refine ax_iconst (pc := 30) (v := 4) C dX6_row_30 (by decide) ?_
          refine ax_callVi (pc := 31) C (w_X6_found F) kX6_found mX6_64 dX6_row_31 (by decide) rfl rfl rfl rfl rfl (Nat.le_of_ble_eq_true rfl) rfl ⟨Nat.le_refl _, Nat.le_refl _⟩ ?_
          exact ax_ir (pc := 34) C rfl dX6_row_34 (by first | rfl | (simp only [h4, h13, h19, h26, if_true, if_false, true_and, and_true, false_and, and_false, not_false_eq_true, not_true_eq_false, show n < 0 from Int32.not_le.mp h26]; done) | (simp only [h4, h13, h19, h26, if_true, if_false, true_and, and_true, false_and, and_false, not_false_eq_true, not_true_eq_false, show n < 0 from Int32.not_le.mp h26]; rfl)) (by first | rfl | (simp only [h4, h13, h19, h26, if_true, if_false, true_and, and_true, false_and, and_false, not_false_eq_true, not_true_eq_false, show n < 0 from Int32.not_le.mp h26]; done) | (simp only [h4, h13, h19, h26, if_true, if_false, true_and, and_true, false_and, and_false, not_false_eq_true, not_true_eq_false, show n < 0 from Int32.not_le.mp h26]; rfl))
      · refine ax_ldc (pc := 22) C dX6_row_22 qX6_63 ?_
        exact ax_ir (pc := 24) C rfl dX6_row_24 (by first | rfl | (simp only [h4, h13, h19, if_true, if_false, true_and, and_true, false_and, and_false, not_false_eq_true, not_true_eq_false]; done) | (simp only [h4, h13, h19, if_true, if_false, true_and, and_true, false_and, and_false, not_false_eq_true, not_true_eq_false]; rfl)) (by first | rfl | (simp only [h4, h13, h19, if_true, if_false, true_and, and_true, false_and, and_false, not_false_eq_true, not_true_eq_false]; done) | (simp only [h4, h13, h19, if_true, if_false, true_and, and_true, false_and, and_false, not_false_eq_true, not_true_eq_false]; rfl))

set_option maxRecDepth 20000 in
set_option maxHeartbeats 4000000 in
theorem w_X6_drop {Y : ax_Y} {ad : Nat → Nat} (F : ax_F Y) {l : Launch} {σ : ax_Z} {row : Int32} : ax_m Y ad l iX6_drop 2 σ [.ref (ad 0), .int row] (some (.int (if 0 ≤ row ∧ row ≤ 7 then (if σ (41 + 2 * row.toNatClampNeg) 1 = 0 then -1000010 - 1 else σ (41 + 2 * row.toNatClampNeg) 3) else -1000001))) (if 0 ≤ row ∧ row ≤ 7 then (if σ (41 + 2 * row.toNatClampNeg) 1 = 0 then ax_up σ 0 8 1 else ax_up (ax_up σ (41 + 2 * row.toNatClampNeg) 1 0) 0 8 0) else σ) := by
  refine ax_m.of F kX6_drop.1 [some (.ref (ad 0)), some (.int (row)), none] rfl (Nat.le_of_ble_eq_true rfl) (fun x C => ?_)
  refine ax_iload_1 (pc := 0) C dX6_drop_0 ?_
  refine ax_callSi (pc := 1) C (w_X6_isRow F) kX6_isRow mX6_55 dX6_drop_1 (by decide) rfl rfl (Nat.le_of_ble_eq_true rfl) rfl ⟨Nat.le_refl _, Nat.le_refl _⟩ ?_
  refine ax_if_ne (pc := 4) (tgt := 10) C dX6_drop_4 (by decide) (fun h4 => ?_) (fun h4 => ?_)
  · have h4 := ax_bne h4
    obtain ⟨c, hc, rfl⟩ := ax_ix (m := 7) (by decide) h4
    have hc : c < 8 := by omega
    have ec : (nI c).toNatClampNeg = c := nI_clamp (by omega)
    refine ax_aload_0 (pc := 10) C dX6_drop_10 ?_
    refine ax_getR (pc := 11) C fX6_11 dX6_drop_11 rfl rfl ?_
    refine ax_iload_1 (pc := 14) C dX6_drop_14 ?_
    refine ax_rows (pc := 15) C dX6_drop_15 hc ?_
    refine ax_astore_2 (pc := 16) C dX6_drop_16 rfl ?_
    refine ax_aload_2 (pc := 17) C dX6_drop_17 ?_
    refine ax_getI (pc := 18) C fX6_76 dX6_drop_18 (ax_rowO hc) rfl ?_
    refine ax_if_ne (pc := 21) (tgt := 30) C dX6_drop_21 (by decide) (fun h21 => ?_) (fun h21 => ?_)
    · refine ax_aload_2 (pc := 30) C dX6_drop_30 ?_
      refine ax_iconst (pc := 31) (v := 0) C dX6_drop_31 (by decide) ?_
      refine ax_putI (pc := 32) C fX6_76 dX6_drop_32 (ax_rowO hc) rfl rfl rfl ?_
      refine ax_aload_0 (pc := 35) C dX6_drop_35 ?_
      refine ax_iconst (pc := 36) (v := 0) C dX6_drop_36 (by decide) ?_
      refine ax_putI (pc := 37) C fX6_72 dX6_drop_37 rfl rfl rfl rfl ?_
      refine ax_aload_2 (pc := 40) C dX6_drop_40 ?_
      refine ax_getI (pc := 41) C fX6_100 dX6_drop_41 (ax_rowO hc) rfl ?_
      exact ax_ir (pc := 44) C rfl dX6_drop_44 (by first | rfl | (simp only [h4, h21, if_true, if_false, true_and, and_true, false_and, and_false, not_false_eq_true, not_true_eq_false, ec]; done) | (simp only [h4, h21, if_true, if_false, true_and, and_true, false_and, and_false, not_false_eq_true, not_true_eq_false, ec]; rw [up_ne (by omega), up_o (by decide)])) (by first | rfl | (simp only [h4, h21, if_true, if_false, true_and, and_true, false_and, and_false, not_false_eq_true, not_true_eq_false, ec]; done) | (simp only [h4, h21, if_true, if_false, true_and, and_true, false_and, and_false, not_false_eq_true, not_true_eq_false, ec]; rfl))
    · refine ax_aload_0 (pc := 24) C dX6_drop_24 ?_
      refine ax_iconst (pc := 25) (v := 1) C dX6_drop_25 (by decide) ?_
      refine ax_callVi (pc := 26) C (w_X6_found F) kX6_found mX6_64 dX6_drop_26 (by decide) rfl rfl rfl rfl rfl (Nat.le_of_ble_eq_true rfl) rfl ⟨Nat.le_refl _, Nat.le_refl _⟩ ?_
      exact ax_ir (pc := 29) C rfl dX6_drop_29 (by first | rfl | (simp only [h4, h21, if_true, if_false, true_and, and_true, false_and, and_false, not_false_eq_true, not_true_eq_false, ec]; done) | (simp only [h4, h21, if_true, if_false, true_and, and_true, false_and, and_false, not_false_eq_true, not_true_eq_false, ec]; rfl)) (by first | rfl | (simp only [h4, h21, if_true, if_false, true_and, and_true, false_and, and_false, not_false_eq_true, not_true_eq_false, ec]; done) | (simp only [h4, h21, if_true, if_false, true_and, and_true, false_and, and_false, not_false_eq_true, not_true_eq_false, ec]; rfl))
  · have h4 := ax_beq h4
    refine ax_ldc (pc := 7) C dX6_drop_7 qX6_63 ?_
    exact ax_ir (pc := 9) C rfl dX6_drop_9 (by first | rfl | (simp only [h4, if_true, if_false, true_and, and_true, false_and, and_false, not_false_eq_true, not_true_eq_false]; done) | (simp only [h4, if_true, if_false, true_and, and_true, false_and, and_false, not_false_eq_true, not_true_eq_false]; rfl)) (by first | rfl | (simp only [h4, if_true, if_false, true_and, and_true, false_and, and_false, not_false_eq_true, not_true_eq_false]; done) | (simp only [h4, if_true, if_false, true_and, and_true, false_and, and_false, not_false_eq_true, not_true_eq_false]; rfl))

set_option maxRecDepth 20000 in
set_option maxHeartbeats 4000000 in
theorem w_X6_set {Y : ax_Y} {ad : Nat → Nat} (F : ax_F Y) {l : Launch} {σ : ax_Z} {row a v : Int32} (hlen : ∀ c, c < 8 → ∃ len, len ≤ 40 ∧ σ (41 + 2 * c) 3 = nI len) : ax_m Y ad l iX6_set 2 σ [.ref (ad 0), .int row, .int a, .int v] (some (.int (if 0 ≤ row ∧ row ≤ 7 then (if σ (41 + 2 * row.toNatClampNeg) 1 = 0 then -1000010 - 1 else if (0 ≤ a ∧ (0 : Int32) ≤ 1 ∧ a ≤ σ (41 + 2 * row.toNatClampNeg) 3 ∧ 1 ≤ σ (41 + 2 * row.toNatClampNeg) 3 - a) then (if σ (41 + 2 * row.toNatClampNeg) 2 = 0 then v.toInt8.toInt32 else if σ (41 + 2 * row.toNatClampNeg) 2 = 1 then v.toInt16.toInt32 else v) else -1000010 - 2) else -1000001))) (if 0 ≤ row ∧ row ≤ 7 then (if σ (41 + 2 * row.toNatClampNeg) 1 = 0 then ax_up σ 0 8 1 else if (0 ≤ a ∧ (0 : Int32) ≤ 1 ∧ a ≤ σ (41 + 2 * row.toNatClampNeg) 3 ∧ 1 ≤ σ (41 + 2 * row.toNatClampNeg) 3 - a) then ax_up (ax_up σ (42 + 2 * row.toNatClampNeg) a.toNatClampNeg (if σ (41 + 2 * row.toNatClampNeg) 2 = 0 then v.toInt8.toInt32 else if σ (41 + 2 * row.toNatClampNeg) 2 = 1 then v.toInt16.toInt32 else v)) 0 8 0 else ax_up σ 0 8 2) else σ) := by
  refine ax_m.of F kX6_set.1 [some (.ref (ad 0)), some (.int (row)), some (.int (a)), some (.int (v)), none] rfl (Nat.le_of_ble_eq_true rfl) (fun x C => ?_)
  refine ax_iload_1 (pc := 0) C dX6_set_0 ?_
  refine ax_callSi (pc := 1) C (w_X6_isRow F) kX6_isRow mX6_55 dX6_set_1 (by decide) rfl rfl (Nat.le_of_ble_eq_true rfl) rfl ⟨Nat.le_refl _, Nat.le_refl _⟩ ?_
  refine ax_if_ne (pc := 4) (tgt := 10) C dX6_set_4 (by decide) (fun h4 => ?_) (fun h4 => ?_)
  · have h4 := ax_bne h4
    obtain ⟨c, hc, rfl⟩ := ax_ix (m := 7) (by decide) h4
    have hc : c < 8 := by omega
    have ec : (nI c).toNatClampNeg = c := nI_clamp (by omega)
    obtain ⟨len, hl1, hl2⟩ := hlen c hc
    refine ax_aload_0 (pc := 10) C dX6_set_10 ?_
    refine ax_getR (pc := 11) C fX6_11 dX6_set_11 rfl rfl ?_
    refine ax_iload_1 (pc := 14) C dX6_set_14 ?_
    refine ax_rows (pc := 15) C dX6_set_15 hc ?_
    refine ax_astore_4 (pc := 16) C dX6_set_16 rfl ?_
    refine ax_aload_4 (pc := 18) C dX6_set_18 ?_
    refine ax_getI (pc := 20) C fX6_76 dX6_set_20 (ax_rowO hc) rfl ?_
    refine ax_if_ne (pc := 23) (tgt := 32) C dX6_set_23 (by decide) (fun h23 => ?_) (fun h23 => ?_)
    · refine ax_aload_4 (pc := 32) C dX6_set_32 ?_
      refine ax_iload_2 (pc := 34) C dX6_set_34 ?_
      refine ax_iconst (pc := 35) (v := 1) C dX6_set_35 (by decide) ?_
      refine ax_callVi (pc := 36) C (w_X5_hasPlaces F hc) kX5_hasPlaces mX6_80 dX6_set_36 (by decide) rfl (ax_rowO hc) rfl rfl rfl (Nat.le_of_ble_eq_true rfl) rfl ⟨Nat.le_refl _, Nat.le_refl _⟩ ?_
      refine ax_if_ne (pc := 39) (tgt := 48) C dX6_set_39 (by decide) (fun h39 => ?_) (fun h39 => ?_)
      · have h39 := ax_bne h39
        obtain ⟨u, w, rfl, e1, hu⟩ := ax_plc hl2 hl1 h39
        have hw1 : w = 1 := by
          have : w < 2 ^ 31 := by omega
          exact ((nI_eq (a := 1) (by decide) this).mp e1).symm
        subst hw1
        have eu : (nI u).toNatClampNeg = u := nI_clamp (by omega)
        refine ax_aload_4 (pc := 48) C dX6_set_48 ?_
        refine ax_getR (pc := 50) C fX6_84 dX6_set_50 (ax_rowO hc) rfl ?_
        refine ax_iload_2 (pc := 53) C dX6_set_53 ?_
        refine ax_aload_4 (pc := 54) C dX6_set_54 ?_
        refine ax_iload_3 (pc := 56) C dX6_set_56 ?_
        refine ax_callVi (pc := 57) C (w_X5_lowestBits F hc) kX5_lowestBits mX6_88 dX6_set_57 (by decide) rfl (ax_rowO hc) rfl rfl rfl (Nat.le_of_ble_eq_true rfl) rfl ⟨Nat.le_refl _, Nat.le_refl _⟩ ?_
        refine ax_isn (pc := 60) C dX6_set_60 (ax_rowA hc) (by omega) (by decide) ?_
        refine ax_aload_0 (pc := 61) C dX6_set_61 ?_
        refine ax_iconst (pc := 62) (v := 0) C dX6_set_62 (by decide) ?_
        refine ax_putI (pc := 63) C fX6_72 dX6_set_63 rfl rfl rfl rfl ?_
        refine ax_aload_4 (pc := 66) C dX6_set_66 ?_
        refine ax_getR (pc := 68) C fX6_84 dX6_set_68 (ax_rowO hc) rfl ?_
        refine ax_iload_2 (pc := 71) C dX6_set_71 ?_
        refine ax_ian (pc := 72) C dX6_set_72 (ax_rowA hc) (by omega) (by decide) ?_
        exact ax_ir (pc := 73) C rfl dX6_set_73 (by simp only [ec, if_pos h4, if_neg h23, if_pos h39]; rw [up_ne (by omega), up_s]) (by simp only [ec, eu, if_pos h4, if_neg h23, if_pos h39])
      · have h39 := ax_beq h39
        refine ax_aload_0 (pc := 42) C dX6_set_42 ?_
        refine ax_iconst (pc := 43) (v := 2) C dX6_set_43 (by decide) ?_
        refine ax_callVi (pc := 44) C (w_X6_found F) kX6_found mX6_64 dX6_set_44 (by decide) rfl rfl rfl rfl rfl (Nat.le_of_ble_eq_true rfl) rfl ⟨Nat.le_refl _, Nat.le_refl _⟩ ?_
        exact ax_ir (pc := 47) C rfl dX6_set_47 (by first | rfl | (simp only [h4, h23, h39, if_true, if_false, true_and, and_true, false_and, and_false, not_false_eq_true, not_true_eq_false, ec]; done) | (simp only [h4, h23, h39, if_true, if_false, true_and, and_true, false_and, and_false, not_false_eq_true, not_true_eq_false, ec]; rfl)) (by first | rfl | (simp only [h4, h23, h39, if_true, if_false, true_and, and_true, false_and, and_false, not_false_eq_true, not_true_eq_false, ec]; done) | (simp only [h4, h23, h39, if_true, if_false, true_and, and_true, false_and, and_false, not_false_eq_true, not_true_eq_false, ec]; rfl))
    · refine ax_aload_0 (pc := 26) C dX6_set_26 ?_
      refine ax_iconst (pc := 27) (v := 1) C dX6_set_27 (by decide) ?_
      refine ax_callVi (pc := 28) C (w_X6_found F) kX6_found mX6_64 dX6_set_28 (by decide) rfl rfl rfl rfl rfl (Nat.le_of_ble_eq_true rfl) rfl ⟨Nat.le_refl _, Nat.le_refl _⟩ ?_
      exact ax_ir (pc := 31) C rfl dX6_set_31 (by first | rfl | (simp only [h4, h23, if_true, if_false, true_and, and_true, false_and, and_false, not_false_eq_true, not_true_eq_false, ec]; done) | (simp only [h4, h23, if_true, if_false, true_and, and_true, false_and, and_false, not_false_eq_true, not_true_eq_false, ec]; rfl)) (by first | rfl | (simp only [h4, h23, if_true, if_false, true_and, and_true, false_and, and_false, not_false_eq_true, not_true_eq_false, ec]; done) | (simp only [h4, h23, if_true, if_false, true_and, and_true, false_and, and_false, not_false_eq_true, not_true_eq_false, ec]; rfl))
  · have h4 := ax_beq h4
    refine ax_ldc (pc := 7) C dX6_set_7 qX6_63 ?_
    exact ax_ir (pc := 9) C rfl dX6_set_9 (by first | rfl | (simp only [h4, if_true, if_false, true_and, and_true, false_and, and_false, not_false_eq_true, not_true_eq_false]; done) | (simp only [h4, if_true, if_false, true_and, and_true, false_and, and_false, not_false_eq_true, not_true_eq_false]; rfl)) (by first | rfl | (simp only [h4, if_true, if_false, true_and, and_true, false_and, and_false, not_false_eq_true, not_true_eq_false]; done) | (simp only [h4, if_true, if_false, true_and, and_true, false_and, and_false, not_false_eq_true, not_true_eq_false]; rfl))

set_option maxRecDepth 20000 in
set_option maxHeartbeats 4000000 in
theorem w_X6_trace {Y : ax_Y} {ad : Nat → Nat} (F : ax_F Y) {l : Launch} {σ : ax_Z} {i : Int32} {t : Nat} (ht : σ 39 1 = nI t) (ht16 : t ≤ 16) : ax_m Y ad l iX6_trace 1 σ [.ref (ad 0), .int i] (some (.int (if 0 ≤ i ∧ i ≤ nI t - 1 then σ 40 i.toNatClampNeg else -1000000))) σ := by
  refine ax_m.of F kX6_trace.1 [some (.ref (ad 0)), some (.int (i))] rfl (Nat.le_of_ble_eq_true rfl) (fun x C => ?_)
  refine ax_iload_1 (pc := 0) C dX6_trace_0 ?_
  refine ax_iconst (pc := 1) (v := 0) C dX6_trace_1 (by decide) ?_
  refine ax_aload_0 (pc := 2) C dX6_trace_2 ?_
  refine ax_getR (pc := 3) C fX6_50 dX6_trace_3 rfl rfl ?_
  refine ax_getI (pc := 6) C fX6_240 dX6_trace_6 rfl rfl ?_
  refine ax_val C ht ?_
  refine ax_iconst (pc := 9) (v := 1) C dX6_trace_9 (by decide) ?_
  refine ax_isub (pc := 10) C dX6_trace_10 ?_
  refine ax_callSi (pc := 11) C (w_X6_isWithin F) kX6_isWithin mX6_59 dX6_trace_11 (by decide) rfl rfl (Nat.le_of_ble_eq_true rfl) rfl ⟨Nat.le_refl _, Nat.le_refl _⟩ ?_
  refine ax_if_eq (pc := 14) (tgt := 29) C dX6_trace_14 (by decide) (fun h14 => ?_) (fun h14 => ?_)
  · have h14 := ax_beq h14
    refine ax_ldc (pc := 29) C dX6_trace_29 qX6_152 ?_
    exact ax_ir (pc := 31) C rfl dX6_trace_31 (by first | rfl | (simp only [h14, if_true, if_false, true_and, and_true, false_and, and_false, not_false_eq_true, not_true_eq_false]; done) | (simp only [h14, if_true, if_false, true_and, and_true, false_and, and_false, not_false_eq_true, not_true_eq_false]; rfl)) rfl
  · have h14 := ax_bne h14
    obtain ⟨c, hc, rfl⟩ := ax_ixN (by omega) h14
    have ec : (nI c).toNatClampNeg = c := nI_clamp (by omega)
    refine ax_aload_0 (pc := 17) C dX6_trace_17 ?_
    refine ax_getR (pc := 18) C fX6_50 dX6_trace_18 rfl rfl ?_
    refine ax_getR (pc := 21) C fX6_241 dX6_trace_21 rfl rfl ?_
    refine ax_iload_1 (pc := 24) C dX6_trace_24 ?_
    refine ax_ian (pc := 25) C dX6_trace_25 rfl (by omega) (by omega) ?_
    refine ax_goto (pc := 26) (tgt := 31) C dX6_trace_26 (by decide) ?_
    exact ax_ir (pc := 31) C rfl dX6_trace_31 (by first | rfl | (simp only [h14, if_true, if_false, true_and, and_true, false_and, and_false, not_false_eq_true, not_true_eq_false, ec]; done) | (simp only [h14, if_true, if_false, true_and, and_true, false_and, and_false, not_false_eq_true, not_true_eq_false, ec]; rfl)) rfl

set_option maxRecDepth 20000 in
set_option maxHeartbeats 4000000 in
theorem w_X6_kind {Y : ax_Y} {ad : Nat → Nat} (F : ax_F Y) {l : Launch} {σ : ax_Z} {n : Nat} (hn : σ 14 10 = nI n) (h6 : n ≤ 6) {cart : Int32} : ax_m Y ad l iX6_kind 2 σ [.ref (ad 0), .int cart] (some (.int (if (0 ≤ cart ∧ cart ≤ nI n - 1) then σ 16 cart.toNatClampNeg else -1000001))) σ := by
  refine ax_m.of F kX6_kind.1 [some (.ref (ad 0)), some (.int (cart))] rfl (Nat.le_of_ble_eq_true rfl) (fun x C => ?_)
  refine ax_aload_0 (pc := 0) C dX6_kind_0 ?_
  refine ax_iload_1 (pc := 1) C dX6_kind_1 ?_
  refine ax_callVi (pc := 2) C (w_X6_isCartN F hn) kX6_isCart mX6_146 dX6_kind_2 (by decide) rfl rfl rfl rfl rfl (Nat.le_of_ble_eq_true rfl) rfl ⟨Nat.le_refl _, Nat.le_refl _⟩ ?_
  refine ax_if_eq (pc := 5) (tgt := 20) C dX6_kind_5 (by decide) (fun h5 => ?_) (fun h5 => ?_)
  · have h5 := ax_beq h5
    refine ax_ldc (pc := 20) C dX6_kind_20 qX6_63 ?_
    exact ax_ir (pc := 22) C rfl dX6_kind_22 (by first | rfl | (simp only [h5, if_true, if_false, true_and, and_true, false_and, and_false, not_false_eq_true, not_true_eq_false]; done) | (simp only [h5, if_true, if_false, true_and, and_true, false_and, and_false, not_false_eq_true, not_true_eq_false]; rfl)) rfl
  · have h5 := ax_bne h5
    obtain ⟨c, hc, rfl⟩ := ax_ixN (by omega) h5
    have ec : (nI c).toNatClampNeg = c := nI_clamp (by omega)
    refine ax_aload_0 (pc := 8) C dX6_kind_8 ?_
    refine ax_getR (pc := 9) C fX6_25 dX6_kind_9 rfl rfl ?_
    refine ax_getR (pc := 12) C fX6_225 dX6_kind_12 rfl rfl ?_
    refine ax_iload_1 (pc := 15) C dX6_kind_15 ?_
    refine ax_ian (pc := 16) C dX6_kind_16 rfl (by omega) (by omega) ?_
    refine ax_goto (pc := 17) (tgt := 22) C dX6_kind_17 (by decide) ?_
    exact ax_ir (pc := 22) C rfl dX6_kind_22 (by first | rfl | (simp only [h5, if_true, if_false, true_and, and_true, false_and, and_false, not_false_eq_true, not_true_eq_false, ec]; done) | (simp only [h5, if_true, if_false, true_and, and_true, false_and, and_false, not_false_eq_true, not_true_eq_false, ec]; rfl)) rfl

set_option maxRecDepth 20000 in
set_option maxHeartbeats 4000000 in
theorem w_X6_rowsThere {Y : ax_Y} {ad : Nat → Nat} (F : ax_F Y) {l : Launch} {σ : ax_Z} : ax_m Y ad l iX6_rowsThere 0 σ [.ref (ad 0)] (some (.int (nI (ms_c (fun c => decide (¬ σ (41 + 2 * c) 1 = 0)) 8)))) σ := by
  refine ax_m.of F kX6_rowsThere.1 [some (.ref (ad 0)), none, none] rfl (Nat.le_of_ble_eq_true rfl) (fun x C => ?_)
  have loop : ∀ (q : Nat) (c : Nat), c ≤ 8 → 8 < c + q → ax_S x Y ad 0 0 (ax_Q x Y ad (some (.int (nI (ms_c (fun c => decide (¬ σ (41 + 2 * c) 1 = 0)) 8)))) 96 (ax_g Y ad σ) 0 0) σ 4 [some (.ref (ad 0)), some (.int (nI (ms_c (fun c => decide (¬ σ (41 + 2 * c) 1 = 0)) c))), some (.int (nI c))] [] := by
    intro q
    induction q with
    | zero => intro c h1 h2; exfalso; omega
    | succ q ih =>
      intro c h1 h2
      refine ax_iload_2 (pc := 4) C dX6_rowsThere_4 ?_
      refine ax_bipush (pc := 5) (v := 8) C dX6_rowsThere_5 (by decide) ?_
      refine ax_icmp_ge (pc := 7) (tgt := 31) C dX6_rowsThere_7 (by decide) (fun h7 => ?_) (fun h7 => ?_)
      · have hc : ¬ c < 8 := fun z => nI_ge (a := c) (b := 8) z (by decide) h7
        refine ax_iload_1 (pc := 31) C dX6_rowsThere_31 ?_
        exact ax_ir (pc := 32) C rfl dX6_rowsThere_32 (by rw [show c = 8 by omega]) rfl
      · have hc : c < 8 := Nat.lt_of_not_le (fun z => h7 (nI_le (a := 8) z (by omega)))
        refine ax_aload_0 (pc := 10) C dX6_rowsThere_10 ?_
        refine ax_getR (pc := 11) C fX6_11 dX6_rowsThere_11 rfl rfl ?_
        refine ax_iload_2 (pc := 14) C dX6_rowsThere_14 ?_
        refine ax_rows (pc := 15) C dX6_rowsThere_15 (by omega) ?_
        refine ax_getI (pc := 16) C fX6_76 dX6_rowsThere_16 (ax_rowO (by omega)) rfl ?_
        refine ax_if_eq (pc := 19) (tgt := 25) C dX6_rowsThere_19 (by decide) (fun h19 => ?_) (fun h19 => ?_)
        · refine ax_iinc_2 (pc := 25) C dX6_rowsThere_25 (1) (by decide) rfl ?_
          refine ax_goto (pc := 28) (tgt := 4) C dX6_rowsThere_28 (by decide) ?_
          refine ax_Leq ?_ (ih (c + 1) (by omega) (by omega))
          rw [ms_c_s, if_neg (by simp [h19]), nI_1]
          rfl
        · refine ax_iinc_1 (pc := 22) C dX6_rowsThere_22 (1) (by decide) rfl ?_
          refine ax_iinc_2 (pc := 25) C dX6_rowsThere_25 (1) (by decide) rfl ?_
          refine ax_goto (pc := 28) (tgt := 4) C dX6_rowsThere_28 (by decide) ?_
          refine ax_Leq ?_ (ih (c + 1) (by omega) (by omega))
          rw [ms_c_s, if_pos (by simp [h19]), nI_1, nI_1]
  refine ax_iconst (pc := 0) (v := 0) C dX6_rowsThere_0 (by decide) ?_
  refine ax_istore_1 (pc := 1) C dX6_rowsThere_1 rfl ?_
  refine ax_iconst (pc := 2) (v := 0) C dX6_rowsThere_2 (by decide) ?_
  refine ax_istore_2 (pc := 3) C dX6_rowsThere_3 rfl ?_
  exact loop 9 0 (by omega) (by omega)

theorem ax_sw7 (k : Int32) : k = 0 ∨ k = 1 ∨ k = 2 ∨ k = 3 ∨ k = 4 ∨ k = 5 ∨ k = 6 ∨ (k.toInt < 0 ∨ 6 < k.toInt) := by
  by_cases h0 : k = 0
  · exact Or.inl h0
  by_cases h1 : k = 1
  · exact Or.inr (Or.inl h1)
  by_cases h2 : k = 2
  · exact Or.inr (Or.inr (Or.inl h2))
  by_cases h3 : k = 3
  · exact Or.inr (Or.inr (Or.inr (Or.inl h3)))
  by_cases h4 : k = 4
  · exact Or.inr (Or.inr (Or.inr (Or.inr (Or.inl h4))))
  by_cases h5 : k = 5
  · exact Or.inr (Or.inr (Or.inr (Or.inr (Or.inr (Or.inl h5)))))
  by_cases h6 : k = 6
  · exact Or.inr (Or.inr (Or.inr (Or.inr (Or.inr (Or.inr (Or.inl h6))))))
  have e0 : ¬ k.toInt = 0 := lv_neT h0 rfl
  have e1 : ¬ k.toInt = 1 := lv_neT h1 rfl
  have e2 : ¬ k.toInt = 2 := lv_neT h2 rfl
  have e3 : ¬ k.toInt = 3 := lv_neT h3 rfl
  have e4 : ¬ k.toInt = 4 := lv_neT h4 rfl
  have e5 : ¬ k.toInt = 5 := lv_neT h5 rfl
  have e6 : ¬ k.toInt = 6 := lv_neT h6 rfl
  exact Or.inr (Or.inr (Or.inr (Or.inr (Or.inr (Or.inr (Or.inr (by omega)))))))
theorem ax_sw7_ne {k : Int32} (h : k.toInt < 0 ∨ 6 < k.toInt) : ¬ k = 0 ∧ ¬ k = 1 ∧ ¬ k = 2 ∧ ¬ k = 3 ∧ ¬ k = 4 ∧ ¬ k = 5 ∧ ¬ k = 6 := by
  refine ⟨fun e => ?_, fun e => ?_, fun e => ?_, fun e => ?_, fun e => ?_, fun e => ?_, fun e => ?_⟩ <;> subst e <;> exact absurd h (by decide)
set_option maxRecDepth 20000 in
set_option maxHeartbeats 4000000 in
theorem w_X6_count {Y : ax_Y} {ad : Nat → Nat} (F : ax_F Y) {l : Launch} {σ : ax_Z} {n : Nat} (hn : σ 14 10 = nI n) (h6 : n ≤ 6) {k : Int32} : ax_m Y ad l iX6_count 1 σ [.ref (ad 0), .int k] (some (.int (if k = 0 then nI (ms_c (fun c => decide (¬ σ (41 + 2 * c) 1 = 0)) 8) else if k = 1 then σ 14 10 else if k = 2 then σ 14 11 else if k = 3 then nI (ms_c (hp_gn σ 14) n) else if k = 4 then σ 25 2 else if k = 5 then hs_sum (σ 21) n else if k = 6 then σ 2 1 else -1000001))) σ := by
  refine ax_m.of F kX6_count.1 [some (.ref (ad 0)), some (.int (k))] rfl (Nat.le_of_ble_eq_true rfl) (fun x C => ?_)
  refine ax_iload_1 (pc := 0) C dX6_count_0 ?_
  rcases ax_sw7 k with rfl | rfl | rfl | rfl | rfl | rfl | rfl | hk
  · refine ax_tabIn (pc := 1) (off := 43) (tgt := 44) C dX6_count_1 (by decide) (by decide) (by decide) (by decide) ?_
    refine ax_aload_0 (pc := 44) C dX6_count_44 ?_
    refine ax_callVi (pc := 45) C (w_X6_rowsThere F) kX6_rowsThere mX6_244 dX6_count_45 (by decide) rfl rfl rfl rfl rfl (Nat.le_of_ble_eq_true rfl) rfl ⟨Nat.le_refl _, Nat.le_refl _⟩ ?_
    exact ax_ir (pc := 48) C rfl dX6_count_48 (by simp) rfl
  · refine ax_tabIn (pc := 1) (off := 48) (tgt := 49) C dX6_count_1 (by decide) (by decide) (by decide) (by decide) ?_
    refine ax_aload_0 (pc := 49) C dX6_count_49 ?_
    refine ax_getR (pc := 50) C fX6_25 dX6_count_50 rfl rfl ?_
    refine ax_getI (pc := 53) C fX6_129 dX6_count_53 rfl rfl ?_
    exact ax_ir (pc := 56) C rfl dX6_count_56 (by simp) rfl
  · refine ax_tabIn (pc := 1) (off := 56) (tgt := 57) C dX6_count_1 (by decide) (by decide) (by decide) (by decide) ?_
    refine ax_aload_0 (pc := 57) C dX6_count_57 ?_
    refine ax_getR (pc := 58) C fX6_25 dX6_count_58 rfl rfl ?_
    refine ax_getI (pc := 61) C fX6_136 dX6_count_61 rfl rfl ?_
    exact ax_ir (pc := 64) C rfl dX6_count_64 (by simp) rfl
  · refine ax_tabIn (pc := 1) (off := 64) (tgt := 65) C dX6_count_1 (by decide) (by decide) (by decide) (by decide) ?_
    refine ax_aload_0 (pc := 65) C dX6_count_65 ?_
    refine ax_getR (pc := 66) C fX6_25 dX6_count_66 rfl rfl ?_
    refine ax_callVi (pc := 69) C (w_X3_cartsGone F ax_now hn (by omega)) kX3_cartsGone mX6_247 dX6_count_69 (by decide) rfl rfl rfl rfl rfl (Nat.le_of_ble_eq_true rfl) rfl ⟨Nat.le_refl _, Nat.le_refl _⟩ ?_
    exact ax_ir (pc := 72) C rfl dX6_count_72 (by simp) rfl
  · refine ax_tabIn (pc := 1) (off := 72) (tgt := 73) C dX6_count_1 (by decide) (by decide) (by decide) (by decide) ?_
    refine ax_aload_0 (pc := 73) C dX6_count_73 ?_
    refine ax_getR (pc := 74) C fX6_36 dX6_count_74 rfl rfl ?_
    refine ax_getI (pc := 77) C fX6_128 dX6_count_77 rfl rfl ?_
    exact ax_ir (pc := 80) C rfl dX6_count_80 (by simp) rfl
  · refine ax_tabIn (pc := 1) (off := 80) (tgt := 81) C dX6_count_1 (by decide) (by decide) (by decide) (by decide) ?_
    refine ax_aload_0 (pc := 81) C dX6_count_81 ?_
    refine ax_getR (pc := 82) C fX6_25 dX6_count_82 rfl rfl ?_
    refine ax_callVi (pc := 85) C (w_X3_paidInAll F ax_now hn (by omega)) kX3_paidInAll mX6_250 dX6_count_85 (by decide) rfl rfl rfl rfl rfl (Nat.le_of_ble_eq_true rfl) rfl ⟨Nat.le_refl _, Nat.le_refl _⟩ ?_
    exact ax_ir (pc := 88) C rfl dX6_count_88 (by simp) rfl
  · refine ax_tabIn (pc := 1) (off := 88) (tgt := 89) C dX6_count_1 (by decide) (by decide) (by decide) (by decide) ?_
    refine ax_aload_0 (pc := 89) C dX6_count_89 ?_
    refine ax_getR (pc := 90) C fX6_18 dX6_count_90 rfl rfl ?_
    refine ax_getI (pc := 93) C fX6_103 dX6_count_93 rfl rfl ?_
    exact ax_ir (pc := 96) C rfl dX6_count_96 (by simp) rfl
  · obtain ⟨k0, k1, k2, k3, k4, k5, k6⟩ := ax_sw7_ne hk
    refine ax_tabOut (pc := 1) (tgt := 97) C dX6_count_1 hk (by decide) ?_
    refine ax_ldc (pc := 97) C dX6_count_97 qX6_63 ?_
    exact ax_ir (pc := 99) C rfl dX6_count_99 (by simp [k0, k1, k2, k3, k4, k5, k6]) rfl
