theorem ac_ne {σ : ax_Z} {m a : Nat} {w b : Int32} (h : a ≠ 25 ∧ a ≠ 26 ∧ a ≠ 27) : ac_keep σ m w b a = σ a := by
  unfold ac_keep
  split
  · unfold ac_put ac_sh
    simp (disch := omega) only [up_ne, cp_ne]
  · unfold ac_put
    simp (disch := omega) only [up_ne]
theorem ax_sw6 (k : Int32) : k = 0 ∨ k = 1 ∨ k = 2 ∨ k = 3 ∨ k = 4 ∨ k = 5 ∨ (k.toInt < 0 ∨ 5 < k.toInt) := by
  rcases ax_sw7 k with h | h | h | h | h | h | h | h
  · exact Or.inl h
  · exact Or.inr (Or.inl h)
  · exact Or.inr (Or.inr (Or.inl h))
  · exact Or.inr (Or.inr (Or.inr (Or.inl h)))
  · exact Or.inr (Or.inr (Or.inr (Or.inr (Or.inl h))))
  · exact Or.inr (Or.inr (Or.inr (Or.inr (Or.inr (Or.inl h)))))
  · subst h
    exact Or.inr (Or.inr (Or.inr (Or.inr (Or.inr (Or.inr (by decide))))))
  · exact Or.inr (Or.inr (Or.inr (Or.inr (Or.inr (Or.inr (by omega))))))
theorem ax_sw6_ne {k : Int32} (h : k.toInt < 0 ∨ 5 < k.toInt) : ¬ k = 0 ∧ ¬ k = 1 ∧ ¬ k = 2 ∧ ¬ k = 3 ∧ ¬ k = 4 ∧ ¬ k = 5 := by
  refine ⟨fun e => ?_, fun e => ?_, fun e => ?_, fun e => ?_, fun e => ?_, fun e => ?_⟩ <;> subst e <;> exact absurd h (by decide)
theorem ax_m1 {k : Int32} (h1 : -1 ≤ k) (h2 : ¬ k = -1) : 0 ≤ k := by
  have e1 := Int32.le_iff_toInt_le.mp h1
  have e2 : ¬ k.toInt = -1 := lv_neT h2 rfl
  have e3 : (-1 : Int32).toInt = -1 := by decide
  rw [Int32.le_iff_toInt_le]
  have e4 : (0 : Int32).toInt = 0 := by decide
  omega
theorem nI_m1 {c : Nat} (h : c < 1000) : ¬ nI c = -1 := by
  intro e
  have h1 : (nI c).toInt = (-1 : Int32).toInt := by rw [e]
  rw [nI_toInt (by omega)] at h1
  have h2 : (-1 : Int32).toInt = -1 := by decide
  omega
theorem ax_cq {n c : Nat} (h : c < n) (hn : n < 1000) : 0 ≤ nI c ∧ nI c ≤ nI n - 1 := by
  refine ⟨nI_pos' (by omega), ?_⟩
  rw [show (1 : Int32) = nI 1 from rfl, pk_sub (by omega)]
  exact nI_le (by omega) (by omega)
theorem ax_cq0 {n : Nat} (hn : n < 1000) : ¬ (0 ≤ (-1 : Int32) ∧ (-1 : Int32) ≤ nI n - 1) := fun h => absurd h.1 (by decide)
theorem dz_02 : ((0 : Int32) ≤ 0 ∧ (0 : Int32) ≤ 2) = True := eq_true (by decide)
theorem dz_01 : ((0 : Int32) ≤ 0 ∧ (0 : Int32) ≤ 1) = True := eq_true (by decide)
theorem dz_12 : ((0 : Int32) ≤ 1 ∧ (1 : Int32) ≤ 2) = True := eq_true (by decide)
theorem dz_11 : ((0 : Int32) ≤ 1 ∧ (1 : Int32) ≤ 1) = True := eq_true (by decide)
theorem dz_10 : ((1 : Int32) = 0) = False := eq_false (by decide)

set_option maxRecDepth 20000 in
set_option maxHeartbeats 4000000 in
theorem w_X6_hour {Y : ax_Y} {ad : Nat → Nat} (F : ax_F Y) {l : Launch} {σ : ax_Z} {n : Nat} (hn : σ 14 10 = nI n) (h6 : n ≤ 6) (ht : σ 14 9 = 0 ∨ σ 14 9 = 1) {h : Nat} (hr : σ 14 11 = nI h) (h12 : h ≤ 12) {m : Nat} (hm : σ 25 2 = nI m) (h24 : m ≤ 24) : ax_m Y ad l iX6_hour 3 σ [.ref (ad 0)] (some (.int (if σ 14 9 = 0 then -1000002 else if nI h ≤ 11 then nI (hp_tm (ac_keep σ m (-1) 0) 14 n) else -1000003))) (if σ 14 9 = 0 then σ else if nI h ≤ 11 then hp_go (ac_keep σ m (-1) 0) 14 n h else σ) := by
  refine ax_m.of F kX6_hour.1 [some (.ref (ad 0))] rfl (Nat.le_of_ble_eq_true rfl) (fun x C => ?_)
  refine ax_aload_0 (pc := 0) C dX6_hour_0 ?_
  refine ax_getR (pc := 1) C fX6_25 dX6_hour_1 rfl rfl ?_
  refine ax_getI (pc := 4) C fX6_132 dX6_hour_4 rfl rfl ?_
  refine ax_if_ne (pc := 7) (tgt := 13) C dX6_hour_7 (by decide) (fun h7 => ?_) (fun h7 => ?_)
  · refine ax_aload_0 (pc := 13) C dX6_hour_13 ?_
    refine ax_getR (pc := 14) C fX6_25 dX6_hour_14 rfl rfl ?_
    refine ax_getI (pc := 17) C fX6_136 dX6_hour_17 rfl rfl ?_
    refine ax_val C hr ?_
    refine ax_bipush (pc := 20) (v := 11) C dX6_hour_20 (by decide) ?_
    refine ax_icmp_le (pc := 22) (tgt := 28) C dX6_hour_22 (by decide) (fun h22 => ?_) (fun h22 => ?_)
    · have hh : h < 12 := by
        have := (nI_leI (a := h) (b := 11) (by omega) (by decide)).mp h22
        omega
      refine ax_aload_0 (pc := 28) C dX6_hour_28 ?_
      refine ax_getR (pc := 29) C fX6_36 dX6_hour_29 rfl rfl ?_
      refine ax_iconst (pc := 32) (v := (-1)) C dX6_hour_32 (by decide) ?_
      refine ax_iconst (pc := 33) (v := 0) C dX6_hour_33 (by decide) ?_
      refine ax_callVv (pc := 34) C (w_X0_keep F hm h24) kX0_keep mX6_139 dX6_hour_34 (by decide) rfl rfl rfl rfl rfl (Nat.le_of_ble_eq_true rfl) rfl ⟨Nat.le_refl _, Nat.le_refl _⟩ ?_
      refine ax_aload_0 (pc := 37) C dX6_hour_37 ?_
      refine ax_getR (pc := 38) C fX6_25 dX6_hour_38 rfl rfl ?_
      refine ax_callVi (pc := 41) C (w_X3_goBy F ax_now (n := n) (by rw [ac_ne (by decide)]; exact hn) (by omega) (by rw [ac_ne (by decide)]; exact hr) hh) kX3_goBy mX6_142 dX6_hour_41 (by decide) rfl rfl rfl rfl rfl (Nat.le_of_ble_eq_true rfl) rfl ⟨Nat.le_refl _, Nat.le_refl _⟩ ?_
      exact ax_ir (pc := 44) C rfl dX6_hour_44 (by first | with_reducible rfl | (simp only [h7, h22, if_true, if_false, true_and, and_true, false_and, and_false, not_false_eq_true, not_true_eq_false]; done) | (simp only [h7, h22, if_true, if_false, true_and, and_true, false_and, and_false, not_false_eq_true, not_true_eq_false]; with_reducible rfl)) (by first | with_reducible rfl | (simp only [h7, h22, if_true, if_false, true_and, and_true, false_and, and_false, not_false_eq_true, not_true_eq_false]; done) | (simp only [h7, h22, if_true, if_false, true_and, and_true, false_and, and_false, not_false_eq_true, not_true_eq_false]; with_reducible rfl))
    · refine ax_ldc (pc := 25) C dX6_hour_25 qX6_104 ?_
      exact ax_ir (pc := 27) C rfl dX6_hour_27 (by first | with_reducible rfl | (simp only [h7, h22, if_true, if_false, true_and, and_true, false_and, and_false, not_false_eq_true, not_true_eq_false]; done) | (simp only [h7, h22, if_true, if_false, true_and, and_true, false_and, and_false, not_false_eq_true, not_true_eq_false]; with_reducible rfl)) (by first | with_reducible rfl | (simp only [h7, h22, if_true, if_false, true_and, and_true, false_and, and_false, not_false_eq_true, not_true_eq_false]; done) | (simp only [h7, h22, if_true, if_false, true_and, and_true, false_and, and_false, not_false_eq_true, not_true_eq_false]; with_reducible rfl))
  · refine ax_ldc (pc := 10) C dX6_hour_10 qX6_135 ?_
    exact ax_ir (pc := 12) C rfl dX6_hour_12 (by first | with_reducible rfl | (simp only [h7, if_true, if_false, true_and, and_true, false_and, and_false, not_false_eq_true, not_true_eq_false]; done) | (simp only [h7, if_true, if_false, true_and, and_true, false_and, and_false, not_false_eq_true, not_true_eq_false]; with_reducible rfl)) (by first | with_reducible rfl | (simp only [h7, if_true, if_false, true_and, and_true, false_and, and_false, not_false_eq_true, not_true_eq_false]; done) | (simp only [h7, if_true, if_false, true_and, and_true, false_and, and_false, not_false_eq_true, not_true_eq_false]; with_reducible rfl))

set_option maxRecDepth 20000 in
set_option maxHeartbeats 4000000 in
theorem w_X6_waits {Y : ax_Y} {ad : Nat → Nat} (F : ax_F Y) {l : Launch} {σ : ax_Z} {n : Nat} (hn : σ 14 10 = nI n) (h6 : n ≤ 6) {m : Nat} (hm : σ 25 2 = nI m) (h24 : m ≤ 24) {cart pt : Int32} : ax_m Y ad l iX6_waits 2 σ [.ref (ad 0), .int cart, .int pt] (some (.int (if (0 ≤ cart ∧ cart ≤ nI n - 1) ∧ (0 ≤ pt ∧ pt ≤ 11) then (if σ 20 cart.toNatClampNeg = -1000000 then σ 19 cart.toNatClampNeg else -1000002) else -1000001))) (if (0 ≤ cart ∧ cart ≤ nI n - 1) ∧ (0 ≤ pt ∧ pt ≤ 11) then (if σ 20 cart.toNatClampNeg = -1000000 then ax_up (ac_keep σ m cart (σ 19 cart.toNatClampNeg)) 19 cart.toNatClampNeg pt else σ) else σ) := by
  refine ax_m.of F kX6_waits.1 [some (.ref (ad 0)), some (.int (cart)), some (.int (pt)), none] rfl (Nat.le_of_ble_eq_true rfl) (fun x C => ?_)
  refine ax_aload_0 (pc := 0) C dX6_waits_0 ?_
  refine ax_iload_1 (pc := 1) C dX6_waits_1 ?_
  refine ax_callVi (pc := 2) C (w_X6_isCartN F hn) kX6_isCart mX6_146 dX6_waits_2 (by decide) rfl rfl rfl rfl rfl (Nat.le_of_ble_eq_true rfl) rfl ⟨Nat.le_refl _, Nat.le_refl _⟩ ?_
  refine ax_if_eq (pc := 5) (tgt := 18) C dX6_waits_5 (by decide) (fun h5 => ?_) (fun h5 => ?_)
  · have h5 := ax_beq h5
    refine ax_ldc (pc := 18) C dX6_waits_18 qX6_63 ?_
    exact ax_ir (pc := 20) C rfl dX6_waits_20 (by first | with_reducible rfl | (simp only [h5, if_true, if_false, true_and, and_true, false_and, and_false, not_false_eq_true, not_true_eq_false]; done) | (simp only [h5, if_true, if_false, true_and, and_true, false_and, and_false, not_false_eq_true, not_true_eq_false]; with_reducible rfl)) (by first | with_reducible rfl | (simp only [h5, if_true, if_false, true_and, and_true, false_and, and_false, not_false_eq_true, not_true_eq_false]; done) | (simp only [h5, if_true, if_false, true_and, and_true, false_and, and_false, not_false_eq_true, not_true_eq_false]; with_reducible rfl))
  · have h5 := ax_bne h5
    refine ax_iload_2 (pc := 8) C dX6_waits_8 ?_
    refine ax_iconst (pc := 9) (v := 0) C dX6_waits_9 (by decide) ?_
    refine ax_bipush (pc := 10) (v := 11) C dX6_waits_10 (by decide) ?_
    refine ax_callSi (pc := 12) C (w_X6_isWithin F) kX6_isWithin mX6_59 dX6_waits_12 (by decide) rfl rfl (Nat.le_of_ble_eq_true rfl) rfl ⟨Nat.le_refl _, Nat.le_refl _⟩ ?_
    refine ax_if_ne (pc := 15) (tgt := 21) C dX6_waits_15 (by decide) (fun h15 => ?_) (fun h15 => ?_)
    · have h15 := ax_bne h15
      obtain ⟨c, hc, rfl⟩ := ax_ixN (by omega) h5
      have ec : (nI c).toNatClampNeg = c := nI_clamp (by omega)
      refine ax_aload_0 (pc := 21) C dX6_waits_21 ?_
      refine ax_getR (pc := 22) C fX6_25 dX6_waits_22 rfl rfl ?_
      refine ax_getR (pc := 25) C fX6_149 dX6_waits_25 rfl rfl ?_
      refine ax_iload_1 (pc := 28) C dX6_waits_28 ?_
      refine ax_ian (pc := 29) C dX6_waits_29 rfl (by omega) (by omega) ?_
      refine ax_ldc (pc := 30) C dX6_waits_30 qX6_152 ?_
      refine ax_icmp_eq (pc := 32) (tgt := 38) C dX6_waits_32 (by decide) (fun h32 => ?_) (fun h32 => ?_)
      · refine ax_aload_0 (pc := 38) C dX6_waits_38 ?_
        refine ax_getR (pc := 39) C fX6_25 dX6_waits_39 rfl rfl ?_
        refine ax_getR (pc := 42) C fX6_153 dX6_waits_42 rfl rfl ?_
        refine ax_iload_1 (pc := 45) C dX6_waits_45 ?_
        refine ax_ian (pc := 46) C dX6_waits_46 rfl (by omega) (by omega) ?_
        refine ax_istore_3 (pc := 47) C dX6_waits_47 rfl ?_
        refine ax_aload_0 (pc := 48) C dX6_waits_48 ?_
        refine ax_getR (pc := 49) C fX6_36 dX6_waits_49 rfl rfl ?_
        refine ax_iload_1 (pc := 52) C dX6_waits_52 ?_
        refine ax_iload_3 (pc := 53) C dX6_waits_53 ?_
        refine ax_callVv (pc := 54) C (w_X0_keep F hm h24) kX0_keep mX6_139 dX6_waits_54 (by decide) rfl rfl rfl rfl rfl (Nat.le_of_ble_eq_true rfl) rfl ⟨Nat.le_refl _, Nat.le_refl _⟩ ?_
        refine ax_aload_0 (pc := 57) C dX6_waits_57 ?_
        refine ax_getR (pc := 58) C fX6_25 dX6_waits_58 rfl rfl ?_
        refine ax_getR (pc := 61) C fX6_153 dX6_waits_61 rfl rfl ?_
        refine ax_iload_1 (pc := 64) C dX6_waits_64 ?_
        refine ax_iload_2 (pc := 65) C dX6_waits_65 ?_
        refine ax_isn (pc := 66) C dX6_waits_66 rfl (by omega) (by omega) ?_
        refine ax_iload_3 (pc := 67) C dX6_waits_67 ?_
        exact ax_ir (pc := 68) C rfl dX6_waits_68 (by first | with_reducible rfl | (simp only [h5, h15, h32, if_true, if_false, true_and, and_true, false_and, and_false, not_false_eq_true, not_true_eq_false, ec]; done) | (simp only [h5, h15, h32, if_true, if_false, true_and, and_true, false_and, and_false, not_false_eq_true, not_true_eq_false, ec]; with_reducible rfl)) (by first | with_reducible rfl | (simp only [h5, h15, h32, if_true, if_false, true_and, and_true, false_and, and_false, not_false_eq_true, not_true_eq_false, ec]; done) | (simp only [h5, h15, h32, if_true, if_false, true_and, and_true, false_and, and_false, not_false_eq_true, not_true_eq_false, ec]; with_reducible rfl))
      · refine ax_ldc (pc := 35) C dX6_waits_35 qX6_135 ?_
        exact ax_ir (pc := 37) C rfl dX6_waits_37 (by first | with_reducible rfl | (simp only [h5, h15, h32, if_true, if_false, true_and, and_true, false_and, and_false, not_false_eq_true, not_true_eq_false, ec]; done) | (simp only [h5, h15, h32, if_true, if_false, true_and, and_true, false_and, and_false, not_false_eq_true, not_true_eq_false, ec]; with_reducible rfl)) (by first | with_reducible rfl | (simp only [h5, h15, h32, if_true, if_false, true_and, and_true, false_and, and_false, not_false_eq_true, not_true_eq_false, ec]; done) | (simp only [h5, h15, h32, if_true, if_false, true_and, and_true, false_and, and_false, not_false_eq_true, not_true_eq_false, ec]; with_reducible rfl))
    · have h15 := ax_beq h15
      refine ax_ldc (pc := 18) C dX6_waits_18 qX6_63 ?_
      exact ax_ir (pc := 20) C rfl dX6_waits_20 (by first | with_reducible rfl | (simp only [h5, h15, if_true, if_false, true_and, and_true, false_and, and_false, not_false_eq_true, not_true_eq_false]; done) | (simp only [h5, h15, if_true, if_false, true_and, and_true, false_and, and_false, not_false_eq_true, not_true_eq_false]; with_reducible rfl)) (by first | with_reducible rfl | (simp only [h5, h15, if_true, if_false, true_and, and_true, false_and, and_false, not_false_eq_true, not_true_eq_false]; done) | (simp only [h5, h15, if_true, if_false, true_and, and_true, false_and, and_false, not_false_eq_true, not_true_eq_false]; with_reducible rfl))

set_option maxRecDepth 20000 in
set_option maxHeartbeats 4000000 in
theorem w_X6_undo_0 {Y : ax_Y} {ad : Nat → Nat} (F : ax_F Y) {l : Launch} {σ : ax_Z} (hm : σ 25 2 = 0) : ax_m Y ad l iX6_undo 0 σ [.ref (ad 0)] (some (.int (-1000002))) σ := by
  refine ax_m.of F kX6_undo.1 [some (.ref (ad 0)), none] rfl (Nat.le_of_ble_eq_true rfl) (fun x C => ?_)
  refine ax_aload_0 (pc := 0) C dX6_undo_0 ?_
  refine ax_getR (pc := 1) C fX6_36 dX6_undo_1 rfl rfl ?_
  refine ax_getI (pc := 4) C fX6_128 dX6_undo_4 rfl rfl ?_
  refine ax_if_ne (pc := 7) (tgt := 13) C dX6_undo_7 (by decide) (fun z => False.elim (z hm)) (fun _ => ?_)
  refine ax_ldc (pc := 10) C dX6_undo_10 qX6_135 ?_
  exact ax_ir (pc := 12) C rfl dX6_undo_12 rfl rfl

set_option maxRecDepth 20000 in
set_option maxHeartbeats 4000000 in
theorem w_X6_undo_p {Y : ax_Y} {ad : Nat → Nat} (F : ax_F Y) {l : Launch} {σ : ax_Z} {n : Nat} (hn : σ 14 10 = nI n) (h6 : n ≤ 6) {m : Nat} (hm : σ 25 2 = nI (m + 1)) (h24 : m < 24) {c : Nat} (hc : c < n) (hw : σ 26 m = nI c) : ax_m Y ad l iX6_undo 2 σ [.ref (ad 0)] (some (.int (nI m))) (ax_up (ax_up σ 25 2 (nI m)) 19 c (σ 27 m)) := by
  refine ax_m.of F kX6_undo.1 [some (.ref (ad 0)), none] rfl (Nat.le_of_ble_eq_true rfl) (fun x C => ?_)
  refine ax_aload_0 (pc := 0) C dX6_undo_0 ?_
  refine ax_getR (pc := 1) C fX6_36 dX6_undo_1 rfl rfl ?_
  refine ax_getI (pc := 4) C fX6_128 dX6_undo_4 rfl rfl ?_
  refine ax_if_ne (pc := 7) (tgt := 13) C dX6_undo_7 (by decide) (fun _ => ?_) (fun z => False.elim (nI_ne0 (n := m + 1) (by omega) (by omega) (by rw [← hm]; exact z)))
  refine ax_aload_0 (pc := 13) C dX6_undo_13 ?_
  refine ax_getR (pc := 14) C fX6_36 dX6_undo_14 rfl rfl ?_
  refine ax_dup (pc := 17) C dX6_undo_17 rfl ?_
  refine ax_getI (pc := 18) C fX6_128 dX6_undo_18 rfl rfl ?_
  refine ax_iconst (pc := 21) (v := 1) C dX6_undo_21 (by decide) ?_
  refine ax_isub (pc := 22) C dX6_undo_22 ?_
  refine ax_val C (show _ = nI m by rw [hm]; exact nI_pred m) ?_
  refine ax_putI (pc := 23) C fX6_128 dX6_undo_23 rfl rfl rfl rfl ?_
  refine ax_aload_0 (pc := 26) C dX6_undo_26 ?_
  refine ax_getR (pc := 27) C fX6_36 dX6_undo_27 rfl rfl ?_
  refine ax_getR (pc := 30) C fX6_156 dX6_undo_30 rfl rfl ?_
  refine ax_aload_0 (pc := 33) C dX6_undo_33 ?_
  refine ax_getR (pc := 34) C fX6_36 dX6_undo_34 rfl rfl ?_
  refine ax_getI (pc := 37) C fX6_128 dX6_undo_37 rfl rfl ?_
  refine ax_iae (pc := 40) (c := m) C dX6_undo_40 rfl up_s (by omega) (by decide) ?_
  refine ax_val C (show _ = nI c by rw [up_ne (by decide)]; exact hw) ?_
  refine ax_istore_1 (pc := 41) C dX6_undo_41 rfl ?_
  refine ax_aload_0 (pc := 42) C dX6_undo_42 ?_
  refine ax_iload_1 (pc := 43) C dX6_undo_43 ?_
  refine ax_callVi (pc := 44) C (w_X6_isCartN F (n := n) (by rw [up_ne (by decide)]; exact hn)) kX6_isCart mX6_146 dX6_undo_44 (by decide) rfl rfl rfl rfl rfl (Nat.le_of_ble_eq_true rfl) rfl ⟨Nat.le_refl _, Nat.le_refl _⟩ ?_
  refine ax_if_eq (pc := 47) (tgt := 77) C dX6_undo_47 (by decide) (fun z => False.elim (absurd (ax_cq hc (by omega)) (ax_beq z))) (fun _ => ?_)
  refine ax_aload_0 (pc := 50) C dX6_undo_50 ?_
  refine ax_getR (pc := 51) C fX6_25 dX6_undo_51 rfl rfl ?_
  refine ax_getR (pc := 54) C fX6_153 dX6_undo_54 rfl rfl ?_
  refine ax_iload_1 (pc := 57) C dX6_undo_57 ?_
  refine ax_aload_0 (pc := 58) C dX6_undo_58 ?_
  refine ax_getR (pc := 59) C fX6_36 dX6_undo_59 rfl rfl ?_
  refine ax_getR (pc := 62) C fX6_159 dX6_undo_62 rfl rfl ?_
  refine ax_aload_0 (pc := 65) C dX6_undo_65 ?_
  refine ax_getR (pc := 66) C fX6_36 dX6_undo_66 rfl rfl ?_
  refine ax_getI (pc := 69) C fX6_128 dX6_undo_69 rfl rfl ?_
  refine ax_iae (pc := 72) (c := m) C dX6_undo_72 rfl up_s (by omega) (by decide) ?_
  refine ax_val C (show _ = σ 27 m by rw [up_ne (by decide)]) ?_
  refine ax_isn (pc := 73) C dX6_undo_73 rfl (by omega) (by omega) ?_
  refine ax_goto (pc := 74) (tgt := 84) C dX6_undo_74 (by decide) ?_
  refine ax_aload_0 (pc := 84) C dX6_undo_84 ?_
  refine ax_getR (pc := 85) C fX6_36 dX6_undo_85 rfl rfl ?_
  refine ax_getI (pc := 88) C fX6_128 dX6_undo_88 rfl rfl ?_
  exact ax_ir (pc := 91) C rfl dX6_undo_91 (by rw [up_ne (by decide), up_s]) rfl

set_option maxRecDepth 20000 in
set_option maxHeartbeats 4000000 in
theorem w_X6_undo_h {Y : ax_Y} {ad : Nat → Nat} (F : ax_F Y) {l : Launch} {σ : ax_Z} {n : Nat} (hn : σ 14 10 = nI n) (h6 : n ≤ 6) {m : Nat} (hm : σ 25 2 = nI (m + 1)) (h24 : m < 24) {h : Nat} (hr : σ 14 11 = nI (h + 1)) (hh : h < 12) (hw : σ 26 m = -1) : ax_m Y ad l iX6_undo 2 σ [.ref (ad 0)] (some (.int (nI m))) (hp_bk (ax_up σ 25 2 (nI m)) 14 n h) := by
  refine ax_m.of F kX6_undo.1 [some (.ref (ad 0)), none] rfl (Nat.le_of_ble_eq_true rfl) (fun x C => ?_)
  refine ax_aload_0 (pc := 0) C dX6_undo_0 ?_
  refine ax_getR (pc := 1) C fX6_36 dX6_undo_1 rfl rfl ?_
  refine ax_getI (pc := 4) C fX6_128 dX6_undo_4 rfl rfl ?_
  refine ax_if_ne (pc := 7) (tgt := 13) C dX6_undo_7 (by decide) (fun _ => ?_) (fun z => False.elim (nI_ne0 (n := m + 1) (by omega) (by omega) (by rw [← hm]; exact z)))
  refine ax_aload_0 (pc := 13) C dX6_undo_13 ?_
  refine ax_getR (pc := 14) C fX6_36 dX6_undo_14 rfl rfl ?_
  refine ax_dup (pc := 17) C dX6_undo_17 rfl ?_
  refine ax_getI (pc := 18) C fX6_128 dX6_undo_18 rfl rfl ?_
  refine ax_iconst (pc := 21) (v := 1) C dX6_undo_21 (by decide) ?_
  refine ax_isub (pc := 22) C dX6_undo_22 ?_
  refine ax_val C (show _ = nI m by rw [hm]; exact nI_pred m) ?_
  refine ax_putI (pc := 23) C fX6_128 dX6_undo_23 rfl rfl rfl rfl ?_
  refine ax_aload_0 (pc := 26) C dX6_undo_26 ?_
  refine ax_getR (pc := 27) C fX6_36 dX6_undo_27 rfl rfl ?_
  refine ax_getR (pc := 30) C fX6_156 dX6_undo_30 rfl rfl ?_
  refine ax_aload_0 (pc := 33) C dX6_undo_33 ?_
  refine ax_getR (pc := 34) C fX6_36 dX6_undo_34 rfl rfl ?_
  refine ax_getI (pc := 37) C fX6_128 dX6_undo_37 rfl rfl ?_
  refine ax_iae (pc := 40) (c := m) C dX6_undo_40 rfl up_s (by omega) (by decide) ?_
  refine ax_val C (show _ = -1 by rw [up_ne (by decide)]; exact hw) ?_
  refine ax_istore_1 (pc := 41) C dX6_undo_41 rfl ?_
  refine ax_aload_0 (pc := 42) C dX6_undo_42 ?_
  refine ax_iload_1 (pc := 43) C dX6_undo_43 ?_
  refine ax_callVi (pc := 44) C (w_X6_isCartN F (n := n) (by rw [up_ne (by decide)]; exact hn)) kX6_isCart mX6_146 dX6_undo_44 (by decide) rfl rfl rfl rfl rfl (Nat.le_of_ble_eq_true rfl) rfl ⟨Nat.le_refl _, Nat.le_refl _⟩ ?_
  refine ax_if_eq (pc := 47) (tgt := 77) C dX6_undo_47 (by decide) (fun _ => ?_) (fun z => False.elim (absurd (ax_bne z) (ax_cq0 (by omega))))
  refine ax_aload_0 (pc := 77) C dX6_undo_77 ?_
  refine ax_getR (pc := 78) C fX6_25 dX6_undo_78 rfl rfl ?_
  refine ax_callVv (pc := 81) C (w_X3_goBack F ax_now (n := n) (by rw [up_ne (by decide)]; exact hn) (by omega) (by rw [up_ne (by decide)]; exact hr) hh) kX3_goBack mX6_162 dX6_undo_81 (by decide) rfl rfl rfl rfl rfl (Nat.le_of_ble_eq_true rfl) rfl ⟨Nat.le_refl _, Nat.le_refl _⟩ ?_
  refine ax_aload_0 (pc := 84) C dX6_undo_84 ?_
  refine ax_getR (pc := 85) C fX6_36 dX6_undo_85 rfl rfl ?_
  refine ax_getI (pc := 88) C fX6_128 dX6_undo_88 rfl rfl ?_
  exact ax_ir (pc := 91) C rfl dX6_undo_91 (by unfold hp_bk; simp [hp_wb, ax_up]) rfl

set_option maxRecDepth 20000 in
set_option maxHeartbeats 4000000 in
theorem w_X6_cart {Y : ax_Y} {ad : Nat → Nat} (F : ax_F Y) {l : Launch} {σ : ax_Z} {n : Nat} (hn : σ 14 10 = nI n) (h6 : n ≤ 6) {cart k : Int32} : ax_m Y ad l iX6_cart 2 σ [.ref (ad 0), .int cart, .int k] (some (.int (if (0 ≤ cart ∧ cart ≤ nI n - 1) then (if k = 0 then σ 17 cart.toNatClampNeg else if k = 1 then σ 18 cart.toNatClampNeg else if k = 2 then σ 19 cart.toNatClampNeg else if k = 3 then σ 20 cart.toNatClampNeg else if k = 4 then σ 21 cart.toNatClampNeg else if k = 5 then (if σ 20 cart.toNatClampNeg = -1000000 then -1000000 else σ 18 cart.toNatClampNeg * (σ 20 cart.toNatClampNeg - σ 17 cart.toNatClampNeg) + σ 21 cart.toNatClampNeg) else -1000001) else -1000001))) σ := by
  refine ax_m.of F kX6_cart.1 [some (.ref (ad 0)), some (.int (cart)), some (.int (k))] rfl (Nat.le_of_ble_eq_true rfl) (fun x C => ?_)
  refine ax_aload_0 (pc := 0) C dX6_cart_0 ?_
  refine ax_iload_1 (pc := 1) C dX6_cart_1 ?_
  refine ax_callVi (pc := 2) C (w_X6_isCartN F hn) kX6_isCart mX6_146 dX6_cart_2 (by decide) rfl rfl rfl rfl rfl (Nat.le_of_ble_eq_true rfl) rfl ⟨Nat.le_refl _, Nat.le_refl _⟩ ?_
  refine ax_if_ne (pc := 5) (tgt := 11) C dX6_cart_5 (by decide) (fun h5 => ?_) (fun h5 => ?_)
  · have h5 := ax_bne h5
    obtain ⟨c, hc, rfl⟩ := ax_ixN (by omega) h5
    have ec : (nI c).toNatClampNeg = c := nI_clamp (by omega)
    refine ax_iload_2 (pc := 11) C dX6_cart_11 ?_
    rcases ax_sw6 k with rfl | rfl | rfl | rfl | rfl | rfl | hk
    · refine ax_tabIn (pc := 12) (off := 40) (tgt := 52) C dX6_cart_12 (by decide) (by decide) (by decide) (by decide) ?_
      refine ax_aload_0 (pc := 52) C dX6_cart_52 ?_
      refine ax_getR (pc := 53) C fX6_25 dX6_cart_53 rfl rfl ?_
      refine ax_getR (pc := 56) C fX6_165 dX6_cart_56 rfl rfl ?_
      refine ax_iload_1 (pc := 59) C dX6_cart_59 ?_
      refine ax_ian (pc := 60) C dX6_cart_60 rfl (by omega) (by omega) ?_
      exact ax_ir (pc := 61) C rfl dX6_cart_61 (by rw [if_pos h5, ec]; rfl) rfl
    · refine ax_tabIn (pc := 12) (off := 50) (tgt := 62) C dX6_cart_12 (by decide) (by decide) (by decide) (by decide) ?_
      refine ax_aload_0 (pc := 62) C dX6_cart_62 ?_
      refine ax_getR (pc := 63) C fX6_25 dX6_cart_63 rfl rfl ?_
      refine ax_getR (pc := 66) C fX6_168 dX6_cart_66 rfl rfl ?_
      refine ax_iload_1 (pc := 69) C dX6_cart_69 ?_
      refine ax_ian (pc := 70) C dX6_cart_70 rfl (by omega) (by omega) ?_
      exact ax_ir (pc := 71) C rfl dX6_cart_71 (by rw [if_pos h5, ec]; rfl) rfl
    · refine ax_tabIn (pc := 12) (off := 60) (tgt := 72) C dX6_cart_12 (by decide) (by decide) (by decide) (by decide) ?_
      refine ax_aload_0 (pc := 72) C dX6_cart_72 ?_
      refine ax_getR (pc := 73) C fX6_25 dX6_cart_73 rfl rfl ?_
      refine ax_getR (pc := 76) C fX6_153 dX6_cart_76 rfl rfl ?_
      refine ax_iload_1 (pc := 79) C dX6_cart_79 ?_
      refine ax_ian (pc := 80) C dX6_cart_80 rfl (by omega) (by omega) ?_
      exact ax_ir (pc := 81) C rfl dX6_cart_81 (by rw [if_pos h5, ec]; rfl) rfl
    · refine ax_tabIn (pc := 12) (off := 70) (tgt := 82) C dX6_cart_12 (by decide) (by decide) (by decide) (by decide) ?_
      refine ax_aload_0 (pc := 82) C dX6_cart_82 ?_
      refine ax_getR (pc := 83) C fX6_25 dX6_cart_83 rfl rfl ?_
      refine ax_getR (pc := 86) C fX6_149 dX6_cart_86 rfl rfl ?_
      refine ax_iload_1 (pc := 89) C dX6_cart_89 ?_
      refine ax_ian (pc := 90) C dX6_cart_90 rfl (by omega) (by omega) ?_
      exact ax_ir (pc := 91) C rfl dX6_cart_91 (by rw [if_pos h5, ec]; rfl) rfl
    · refine ax_tabIn (pc := 12) (off := 80) (tgt := 92) C dX6_cart_12 (by decide) (by decide) (by decide) (by decide) ?_
      refine ax_aload_0 (pc := 92) C dX6_cart_92 ?_
      refine ax_getR (pc := 93) C fX6_25 dX6_cart_93 rfl rfl ?_
      refine ax_getR (pc := 96) C fX6_171 dX6_cart_96 rfl rfl ?_
      refine ax_iload_1 (pc := 99) C dX6_cart_99 ?_
      refine ax_ian (pc := 100) C dX6_cart_100 rfl (by omega) (by omega) ?_
      exact ax_ir (pc := 101) C rfl dX6_cart_101 (by rw [if_pos h5, ec]; rfl) rfl
    · refine ax_tabIn (pc := 12) (off := 90) (tgt := 102) C dX6_cart_12 (by decide) (by decide) (by decide) (by decide) ?_
      refine ax_aload_0 (pc := 102) C dX6_cart_102 ?_
      refine ax_getR (pc := 103) C fX6_25 dX6_cart_103 rfl rfl ?_
      refine ax_iload_1 (pc := 106) C dX6_cart_106 ?_
      refine ax_callVi (pc := 107) C (w_X3_costOf F ax_now (by omega)) kX3_costOf mX6_174 dX6_cart_107 (by decide) rfl rfl rfl rfl rfl (Nat.le_of_ble_eq_true rfl) rfl ⟨Nat.le_refl _, Nat.le_refl _⟩ ?_
      exact ax_ir (pc := 110) C rfl dX6_cart_110 (by rw [if_pos h5, ec]; rfl) rfl
    · obtain ⟨k0, k1, k2, k3, k4, k5⟩ := ax_sw6_ne hk
      refine ax_tabOut (pc := 12) (tgt := 111) C dX6_cart_12 hk (by decide) ?_
      refine ax_ldc (pc := 111) C dX6_cart_111 qX6_63 ?_
      exact ax_ir (pc := 113) C rfl dX6_cart_113 (by simp only [if_pos h5, ec, k0, k1, k2, k3, k4, k5, if_false]) rfl
  · have h5 := ax_beq h5
    refine ax_ldc (pc := 8) C dX6_cart_8 qX6_63 ?_
    exact ax_ir (pc := 10) C rfl dX6_cart_10 (by first | with_reducible rfl | (simp only [h5, if_true, if_false, true_and, and_true, false_and, and_false, not_false_eq_true, not_true_eq_false]; done) | (simp only [h5, if_true, if_false, true_and, and_true, false_and, and_false, not_false_eq_true, not_true_eq_false]; with_reducible rfl)) rfl

set_option maxRecDepth 20000 in
set_option maxHeartbeats 4000000 in
theorem w_X6_day {Y : ax_Y} {ad : Nat → Nat} (F : ax_F Y) {l : Launch} {σ : ax_Z} {n : Nat} (hn : σ 14 10 = nI n) (h6 : n ≤ 6) (ht : σ 14 9 = 0 ∨ σ 14 9 = 1) {cart k : Int32} : ax_m Y ad l iX6_day 5 σ [.ref (ad 0), .int cart, .int k] (some (.int (if (0 ≤ cart ∧ cart ≤ nI n - 1) ∧ (0 ≤ k ∧ k ≤ 2) then (if k = 0 then (hp_dy (hp_bc σ 29 14) 29 n) 35 cart.toNatClampNeg else if k = 1 then (if (hp_dy (hp_bc σ 29 14) 29 n) 35 cart.toNatClampNeg = -1000000 then -1000000 else (hp_dy (hp_bc σ 29 14) 29 n) 33 cart.toNatClampNeg * ((hp_dy (hp_bc σ 29 14) 29 n) 35 cart.toNatClampNeg - (hp_dy (hp_bc σ 29 14) 29 n) 32 cart.toNatClampNeg) + (hp_dy (hp_bc σ 29 14) 29 n) 36 cart.toNatClampNeg) else (hp_dy (hp_bc σ 29 14) 29 n) 36 cart.toNatClampNeg) else -1000001))) (if (0 ≤ cart ∧ cart ≤ nI n - 1) ∧ (0 ≤ k ∧ k ≤ 2) then (hp_dy (hp_bc σ 29 14) 29 n) else σ) := by
  refine ax_m.of F kX6_day.1 [some (.ref (ad 0)), some (.int (cart)), some (.int (k)), none] rfl (Nat.le_of_ble_eq_true rfl) (fun x C => ?_)
  refine ax_aload_0 (pc := 0) C dX6_day_0 ?_
  refine ax_iload_1 (pc := 1) C dX6_day_1 ?_
  refine ax_callVi (pc := 2) C (w_X6_isCartN F hn) kX6_isCart mX6_146 dX6_day_2 (by decide) rfl rfl rfl rfl rfl (Nat.le_of_ble_eq_true rfl) rfl ⟨Nat.le_refl _, Nat.le_refl _⟩ ?_
  refine ax_if_eq (pc := 5) (tgt := 17) C dX6_day_5 (by decide) (fun h5 => ?_) (fun h5 => ?_)
  · have h5 := ax_beq h5
    refine ax_ldc (pc := 17) C dX6_day_17 qX6_63 ?_
    exact ax_ir (pc := 19) C rfl dX6_day_19 (by first | with_reducible rfl | (simp only [h5, if_true, if_false, true_and, and_true, false_and, and_false, not_false_eq_true, not_true_eq_false]; done) | (simp only [h5, if_true, if_false, true_and, and_true, false_and, and_false, not_false_eq_true, not_true_eq_false]; with_reducible rfl)) (by first | with_reducible rfl | (simp only [h5, if_true, if_false, true_and, and_true, false_and, and_false, not_false_eq_true, not_true_eq_false]; done) | (simp only [h5, if_true, if_false, true_and, and_true, false_and, and_false, not_false_eq_true, not_true_eq_false]; with_reducible rfl))
  · have h5 := ax_bne h5
    refine ax_iload_2 (pc := 8) C dX6_day_8 ?_
    refine ax_iconst (pc := 9) (v := 0) C dX6_day_9 (by decide) ?_
    refine ax_iconst (pc := 10) (v := 2) C dX6_day_10 (by decide) ?_
    refine ax_callSi (pc := 11) C (w_X6_isWithin F) kX6_isWithin mX6_59 dX6_day_11 (by decide) rfl rfl (Nat.le_of_ble_eq_true rfl) rfl ⟨Nat.le_refl _, Nat.le_refl _⟩ ?_
    refine ax_if_ne (pc := 14) (tgt := 20) C dX6_day_14 (by decide) (fun h14 => ?_) (fun h14 => ?_)
    · have h14 := ax_bne h14
      obtain ⟨c, hc, rfl⟩ := ax_ixN (by omega) h5
      have ec : (nI c).toNatClampNeg = c := nI_clamp (by omega)
      refine ax_aload_0 (pc := 20) C dX6_day_20 ?_
      refine ax_getR (pc := 21) C fX6_43 dX6_day_21 rfl rfl ?_
      refine ax_aload_0 (pc := 24) C dX6_day_24 ?_
      refine ax_getR (pc := 25) C fX6_25 dX6_day_25 rfl rfl ?_
      refine ax_callVr (pc := 28) C (w_X2_dayOf F hn (by omega) ht) kX2_dayOf mX6_177 dX6_day_28 (by decide) rfl rfl rfl rfl rfl (Nat.le_of_ble_eq_true rfl) rfl ⟨Nat.le_refl _, Nat.le_refl _⟩ ?_
      refine ax_astore_3 (pc := 31) C dX6_day_31 rfl ?_
      refine ax_iload_2 (pc := 32) C dX6_day_32 ?_
      refine ax_if_ne (pc := 33) (tgt := 43) C dX6_day_33 (by decide) (fun h33 => ?_) (fun h33 => ?_)
      · refine ax_iload_2 (pc := 43) C dX6_day_43 ?_
        refine ax_iconst (pc := 44) (v := 1) C dX6_day_44 (by decide) ?_
        refine ax_icmp_ne (pc := 45) (tgt := 56) C dX6_day_45 (by decide) (fun h45 => ?_) (fun h45 => ?_)
        · refine ax_aload_3 (pc := 56) C dX6_day_56 ?_
          refine ax_getR (pc := 57) C fX6_171 dX6_day_57 rfl rfl ?_
          refine ax_iload_1 (pc := 60) C dX6_day_60 ?_
          refine ax_ian (pc := 61) C dX6_day_61 rfl (by omega) (by omega) ?_
          exact ax_ir (pc := 62) C rfl dX6_day_62 (by first | with_reducible rfl | (simp only [h5, h14, h33, h45, if_true, if_false, true_and, and_true, false_and, and_false, not_false_eq_true, not_true_eq_false, ec, dz_02, dz_01, dz_12, dz_11, dz_10, Nat.reduceAdd]; done) | (simp only [h5, h14, h33, h45, if_true, if_false, true_and, and_true, false_and, and_false, not_false_eq_true, not_true_eq_false, ec, dz_02, dz_01, dz_12, dz_11, dz_10, Nat.reduceAdd]; with_reducible rfl)) (by first | with_reducible rfl | (simp only [h5, h14, h33, h45, if_true, if_false, true_and, and_true, false_and, and_false, not_false_eq_true, not_true_eq_false, ec, dz_02, dz_01, dz_12, dz_11, dz_10, Nat.reduceAdd]; done) | (simp only [h5, h14, h33, h45, if_true, if_false, true_and, and_true, false_and, and_false, not_false_eq_true, not_true_eq_false, ec, dz_02, dz_01, dz_12, dz_11, dz_10, Nat.reduceAdd]; with_reducible rfl))
        · refine ax_aload_3 (pc := 48) C dX6_day_48 ?_
          refine ax_iload_1 (pc := 49) C dX6_day_49 ?_
          refine ax_callVi (pc := 50) C (w_X3_costOf F ax_day (by omega)) kX3_costOf mX6_174 dX6_day_50 (by decide) rfl rfl rfl rfl rfl (Nat.le_of_ble_eq_true rfl) rfl ⟨Nat.le_refl _, Nat.le_refl _⟩ ?_
          refine ax_goto (pc := 53) (tgt := 62) C dX6_day_53 (by decide) ?_
          exact ax_ir (pc := 62) C rfl dX6_day_62 (by first | with_reducible rfl | (simp only [h5, h14, h33, h45, if_true, if_false, true_and, and_true, false_and, and_false, not_false_eq_true, not_true_eq_false, ec, dz_02, dz_01, dz_12, dz_11, dz_10, Nat.reduceAdd]; done) | (simp only [h5, h14, h33, h45, if_true, if_false, true_and, and_true, false_and, and_false, not_false_eq_true, not_true_eq_false, ec, dz_02, dz_01, dz_12, dz_11, dz_10, Nat.reduceAdd]; with_reducible rfl)) (by first | with_reducible rfl | (simp only [h5, h14, h33, h45, if_true, if_false, true_and, and_true, false_and, and_false, not_false_eq_true, not_true_eq_false, ec, dz_02, dz_01, dz_12, dz_11, dz_10, Nat.reduceAdd]; done) | (simp only [h5, h14, h33, h45, if_true, if_false, true_and, and_true, false_and, and_false, not_false_eq_true, not_true_eq_false, ec, dz_02, dz_01, dz_12, dz_11, dz_10, Nat.reduceAdd]; with_reducible rfl))
      · refine ax_aload_3 (pc := 36) C dX6_day_36 ?_
        refine ax_getR (pc := 37) C fX6_149 dX6_day_37 rfl rfl ?_
        refine ax_iload_1 (pc := 40) C dX6_day_40 ?_
        refine ax_ian (pc := 41) C dX6_day_41 rfl (by omega) (by omega) ?_
        exact ax_ir (pc := 42) C rfl dX6_day_42 (by first | with_reducible rfl | (simp only [h5, h14, h33, if_true, if_false, true_and, and_true, false_and, and_false, not_false_eq_true, not_true_eq_false, ec, dz_02, dz_01, dz_12, dz_11, dz_10, Nat.reduceAdd]; done) | (simp only [h5, h14, h33, if_true, if_false, true_and, and_true, false_and, and_false, not_false_eq_true, not_true_eq_false, ec, dz_02, dz_01, dz_12, dz_11, dz_10, Nat.reduceAdd]; with_reducible rfl)) (by first | with_reducible rfl | (simp only [h5, h14, h33, if_true, if_false, true_and, and_true, false_and, and_false, not_false_eq_true, not_true_eq_false, ec, dz_02, dz_01, dz_12, dz_11, dz_10, Nat.reduceAdd]; done) | (simp only [h5, h14, h33, if_true, if_false, true_and, and_true, false_and, and_false, not_false_eq_true, not_true_eq_false, ec, dz_02, dz_01, dz_12, dz_11, dz_10, Nat.reduceAdd]; with_reducible rfl))
    · have h14 := ax_beq h14
      refine ax_ldc (pc := 17) C dX6_day_17 qX6_63 ?_
      exact ax_ir (pc := 19) C rfl dX6_day_19 (by first | with_reducible rfl | (simp only [h5, h14, if_true, if_false, true_and, and_true, false_and, and_false, not_false_eq_true, not_true_eq_false]; done) | (simp only [h5, h14, if_true, if_false, true_and, and_true, false_and, and_false, not_false_eq_true, not_true_eq_false]; with_reducible rfl)) (by first | with_reducible rfl | (simp only [h5, h14, if_true, if_false, true_and, and_true, false_and, and_false, not_false_eq_true, not_true_eq_false]; done) | (simp only [h5, h14, if_true, if_false, true_and, and_true, false_and, and_false, not_false_eq_true, not_true_eq_false]; with_reducible rfl))

set_option maxRecDepth 20000 in
set_option maxHeartbeats 4000000 in
theorem w_X6_best {Y : ax_Y} {ad : Nat → Nat} (F : ax_F Y) {l : Launch} {σ : ax_Z} {n : Nat} (hn : σ 14 10 = nI n) (h6 : n ≤ 6) (ht : σ 14 9 = 0 ∨ σ 14 9 = 1) {cart k : Int32} : ax_m Y ad l iX6_best 6 σ [.ref (ad 0), .int cart, .int k] (some (.int (if (0 ≤ cart ∧ cart ≤ nI n - 1) ∧ (0 ≤ k ∧ k ≤ 1) then (if k = 0 then (hp_dy (tb_S (hp_bc σ 29 14) n cart.toNatClampNeg) 29 n) 34 cart.toNatClampNeg else (if (hp_dy (tb_S (hp_bc σ 29 14) n cart.toNatClampNeg) 29 n) 35 cart.toNatClampNeg = -1000000 then -1000000 else (hp_dy (tb_S (hp_bc σ 29 14) n cart.toNatClampNeg) 29 n) 33 cart.toNatClampNeg * ((hp_dy (tb_S (hp_bc σ 29 14) n cart.toNatClampNeg) 29 n) 35 cart.toNatClampNeg - (hp_dy (tb_S (hp_bc σ 29 14) n cart.toNatClampNeg) 29 n) 32 cart.toNatClampNeg) + (hp_dy (tb_S (hp_bc σ 29 14) n cart.toNatClampNeg) 29 n) 36 cart.toNatClampNeg)) else -1000001))) (if (0 ≤ cart ∧ cart ≤ nI n - 1) ∧ (0 ≤ k ∧ k ≤ 1) then (hp_dy (tb_S (hp_bc σ 29 14) n cart.toNatClampNeg) 29 n) else σ) := by
  refine ax_m.of F kX6_best.1 [some (.ref (ad 0)), some (.int (cart)), some (.int (k)), none] rfl (Nat.le_of_ble_eq_true rfl) (fun x C => ?_)
  refine ax_aload_0 (pc := 0) C dX6_best_0 ?_
  refine ax_iload_1 (pc := 1) C dX6_best_1 ?_
  refine ax_callVi (pc := 2) C (w_X6_isCartN F hn) kX6_isCart mX6_146 dX6_best_2 (by decide) rfl rfl rfl rfl rfl (Nat.le_of_ble_eq_true rfl) rfl ⟨Nat.le_refl _, Nat.le_refl _⟩ ?_
  refine ax_if_eq (pc := 5) (tgt := 17) C dX6_best_5 (by decide) (fun h5 => ?_) (fun h5 => ?_)
  · have h5 := ax_beq h5
    refine ax_ldc (pc := 17) C dX6_best_17 qX6_63 ?_
    exact ax_ir (pc := 19) C rfl dX6_best_19 (by first | with_reducible rfl | (simp only [h5, if_true, if_false, true_and, and_true, false_and, and_false, not_false_eq_true, not_true_eq_false]; done) | (simp only [h5, if_true, if_false, true_and, and_true, false_and, and_false, not_false_eq_true, not_true_eq_false]; with_reducible rfl)) (by first | with_reducible rfl | (simp only [h5, if_true, if_false, true_and, and_true, false_and, and_false, not_false_eq_true, not_true_eq_false]; done) | (simp only [h5, if_true, if_false, true_and, and_true, false_and, and_false, not_false_eq_true, not_true_eq_false]; with_reducible rfl))
  · have h5 := ax_bne h5
    refine ax_iload_2 (pc := 8) C dX6_best_8 ?_
    refine ax_iconst (pc := 9) (v := 0) C dX6_best_9 (by decide) ?_
    refine ax_iconst (pc := 10) (v := 1) C dX6_best_10 (by decide) ?_
    refine ax_callSi (pc := 11) C (w_X6_isWithin F) kX6_isWithin mX6_59 dX6_best_11 (by decide) rfl rfl (Nat.le_of_ble_eq_true rfl) rfl ⟨Nat.le_refl _, Nat.le_refl _⟩ ?_
    refine ax_if_ne (pc := 14) (tgt := 20) C dX6_best_14 (by decide) (fun h14 => ?_) (fun h14 => ?_)
    · have h14 := ax_bne h14
      obtain ⟨c, hc, rfl⟩ := ax_ixN (by omega) h5
      have ec : (nI c).toNatClampNeg = c := nI_clamp (by omega)
      refine ax_aload_0 (pc := 20) C dX6_best_20 ?_
      refine ax_getR (pc := 21) C fX6_43 dX6_best_21 rfl rfl ?_
      refine ax_aload_0 (pc := 24) C dX6_best_24 ?_
      refine ax_getR (pc := 25) C fX6_25 dX6_best_25 rfl rfl ?_
      refine ax_iload_1 (pc := 28) C dX6_best_28 ?_
      refine ax_callVr (pc := 29) C (w_X2_dayWithBest F hn (by omega) ht (by omega)) kX2_dayWithBest mX6_184 dX6_best_29 (by decide) rfl rfl rfl rfl rfl (Nat.le_of_ble_eq_true rfl) rfl ⟨Nat.le_refl _, Nat.le_refl _⟩ ?_
      refine ax_astore_3 (pc := 32) C dX6_best_32 rfl ?_
      refine ax_iload_2 (pc := 33) C dX6_best_33 ?_
      refine ax_if_ne (pc := 34) (tgt := 46) C dX6_best_34 (by decide) (fun h34 => ?_) (fun h34 => ?_)
      · refine ax_aload_3 (pc := 46) C dX6_best_46 ?_
        refine ax_iload_1 (pc := 47) C dX6_best_47 ?_
        refine ax_callVi (pc := 48) C (w_X3_costOf F ax_day (by omega)) kX3_costOf mX6_174 dX6_best_48 (by decide) rfl rfl rfl rfl rfl (Nat.le_of_ble_eq_true rfl) rfl ⟨Nat.le_refl _, Nat.le_refl _⟩ ?_
        exact ax_ir (pc := 51) C rfl dX6_best_51 (by first | with_reducible rfl | (simp only [h5, h14, h34, if_true, if_false, true_and, and_true, false_and, and_false, not_false_eq_true, not_true_eq_false, ec, dz_02, dz_01, dz_12, dz_11, dz_10, Nat.reduceAdd]; done) | (simp only [h5, h14, h34, if_true, if_false, true_and, and_true, false_and, and_false, not_false_eq_true, not_true_eq_false, ec, dz_02, dz_01, dz_12, dz_11, dz_10, Nat.reduceAdd]; with_reducible rfl)) (by first | with_reducible rfl | (simp only [h5, h14, h34, if_true, if_false, true_and, and_true, false_and, and_false, not_false_eq_true, not_true_eq_false, ec, dz_02, dz_01, dz_12, dz_11, dz_10, Nat.reduceAdd]; done) | (simp only [h5, h14, h34, if_true, if_false, true_and, and_true, false_and, and_false, not_false_eq_true, not_true_eq_false, ec, dz_02, dz_01, dz_12, dz_11, dz_10, Nat.reduceAdd]; with_reducible rfl))
      · refine ax_aload_3 (pc := 37) C dX6_best_37 ?_
        refine ax_getR (pc := 38) C fX6_153 dX6_best_38 rfl rfl ?_
        refine ax_iload_1 (pc := 41) C dX6_best_41 ?_
        refine ax_ian (pc := 42) C dX6_best_42 rfl (by omega) (by omega) ?_
        refine ax_goto (pc := 43) (tgt := 51) C dX6_best_43 (by decide) ?_
        exact ax_ir (pc := 51) C rfl dX6_best_51 (by first | with_reducible rfl | (simp only [h5, h14, h34, if_true, if_false, true_and, and_true, false_and, and_false, not_false_eq_true, not_true_eq_false, ec, dz_02, dz_01, dz_12, dz_11, dz_10, Nat.reduceAdd]; done) | (simp only [h5, h14, h34, if_true, if_false, true_and, and_true, false_and, and_false, not_false_eq_true, not_true_eq_false, ec, dz_02, dz_01, dz_12, dz_11, dz_10, Nat.reduceAdd]; with_reducible rfl)) (by first | with_reducible rfl | (simp only [h5, h14, h34, if_true, if_false, true_and, and_true, false_and, and_false, not_false_eq_true, not_true_eq_false, ec, dz_02, dz_01, dz_12, dz_11, dz_10, Nat.reduceAdd]; done) | (simp only [h5, h14, h34, if_true, if_false, true_and, and_true, false_and, and_false, not_false_eq_true, not_true_eq_false, ec, dz_02, dz_01, dz_12, dz_11, dz_10, Nat.reduceAdd]; with_reducible rfl))
    · have h14 := ax_beq h14
      refine ax_ldc (pc := 17) C dX6_best_17 qX6_63 ?_
      exact ax_ir (pc := 19) C rfl dX6_best_19 (by first | with_reducible rfl | (simp only [h5, h14, if_true, if_false, true_and, and_true, false_and, and_false, not_false_eq_true, not_true_eq_false]; done) | (simp only [h5, h14, if_true, if_false, true_and, and_true, false_and, and_false, not_false_eq_true, not_true_eq_false]; with_reducible rfl)) (by first | with_reducible rfl | (simp only [h5, h14, if_true, if_false, true_and, and_true, false_and, and_false, not_false_eq_true, not_true_eq_false]; done) | (simp only [h5, h14, if_true, if_false, true_and, and_true, false_and, and_false, not_false_eq_true, not_true_eq_false]; with_reducible rfl))

set_option maxRecDepth 20000 in
set_option maxHeartbeats 4000000 in
theorem w_X6_rest {Y : ax_Y} {ad : Nat → Nat} (F : ax_F Y) {l : Launch} {σ : ax_Z} {n : Nat} (hn : σ 14 10 = nI n) (h6 : n ≤ 6) (ht : σ 14 9 = 0 ∨ σ 14 9 = 1) {cart : Int32} : ax_m Y ad l iX6_rest 6 σ [.ref (ad 0), .int cart] (some (.int (if σ 14 9 = 0 then -1000002 else if cart = -1 then rr_R ((hp_bc σ 29 14) 33) (hp_K (hp_bc σ 29 14) 29 n) 20 0 else if (0 ≤ cart ∧ cart ≤ nI n - 1) then (rr_S (hp_bc σ 29 14) n (rr_E ((hp_bc σ 29 14) 33) (hp_K (hp_bc σ 29 14) 29 n) 20 0)) 34 cart.toNatClampNeg else -1000001))) (if σ 14 9 = 0 then σ else if cart = -1 ∨ (0 ≤ cart ∧ cart ≤ nI n - 1) then (rr_S (hp_bc σ 29 14) n (rr_E ((hp_bc σ 29 14) 33) (hp_K (hp_bc σ 29 14) 29 n) 20 0)) else σ) := by
  refine ax_m.of F kX6_rest.1 [some (.ref (ad 0)), some (.int (cart)), none] rfl (Nat.le_of_ble_eq_true rfl) (fun x C => ?_)
  refine ax_aload_0 (pc := 0) C dX6_rest_0 ?_
  refine ax_getR (pc := 1) C fX6_25 dX6_rest_1 rfl rfl ?_
  refine ax_getI (pc := 4) C fX6_132 dX6_rest_4 rfl rfl ?_
  refine ax_if_ne (pc := 7) (tgt := 13) C dX6_rest_7 (by decide) (fun h7 => ?_) (fun h7 => ?_)
  · refine ax_iload_1 (pc := 13) C dX6_rest_13 ?_
    refine ax_iconst (pc := 14) (v := (-1)) C dX6_rest_14 (by decide) ?_
    refine ax_icmp_eq (pc := 15) (tgt := 29) C dX6_rest_15 (by decide) (fun h15 => ?_) (fun h15 => ?_)
    · refine ax_aload_0 (pc := 29) C dX6_rest_29 ?_
      refine ax_getR (pc := 30) C fX6_43 dX6_rest_30 rfl rfl ?_
      refine ax_aload_0 (pc := 33) C dX6_rest_33 ?_
      refine ax_getR (pc := 34) C fX6_25 dX6_rest_34 rfl rfl ?_
      refine ax_callVi (pc := 37) C (w_X2_roundsToRest F hn (by omega) ht) kX2_roundsToRest mX6_188 dX6_rest_37 (by decide) rfl rfl rfl rfl rfl (Nat.le_of_ble_eq_true rfl) rfl ⟨Nat.le_refl _, Nat.le_refl _⟩ ?_
      refine ax_istore_2 (pc := 40) C dX6_rest_40 rfl ?_
      refine ax_iload_1 (pc := 41) C dX6_rest_41 ?_
      refine ax_iconst (pc := 42) (v := (-1)) C dX6_rest_42 (by decide) ?_
      refine ax_icmp_ne (pc := 43) (tgt := 50) C dX6_rest_43 (by decide) (fun h43 => ?_) (fun h43 => ?_)
      · exact absurd h15 h43
      · refine ax_iload_2 (pc := 46) C dX6_rest_46 ?_
        refine ax_goto (pc := 47) (tgt := 62) C dX6_rest_47 (by decide) ?_
        exact ax_ir (pc := 62) C rfl dX6_rest_62 (by first | with_reducible rfl | (simp only [h7, h15, h43, if_true, if_false, true_and, and_true, false_and, and_false, not_false_eq_true, not_true_eq_false]; done) | (simp only [h7, h15, h43, if_true, if_false, true_and, and_true, false_and, and_false, not_false_eq_true, not_true_eq_false]; with_reducible rfl)) (by first | with_reducible rfl | (simp only [h7, h15, h43, if_true, if_false, true_and, and_true, false_and, and_false, not_false_eq_true, not_true_eq_false, or_true, true_or, or_false, false_or]; done) | (simp only [h7, h15, h43, if_true, if_false, true_and, and_true, false_and, and_false, not_false_eq_true, not_true_eq_false, or_true, true_or, or_false, false_or]; with_reducible rfl))
    · refine ax_aload_0 (pc := 18) C dX6_rest_18 ?_
      refine ax_iload_1 (pc := 19) C dX6_rest_19 ?_
      refine ax_callVi (pc := 20) C (w_X6_isCartN F hn) kX6_isCart mX6_146 dX6_rest_20 (by decide) rfl rfl rfl rfl rfl (Nat.le_of_ble_eq_true rfl) rfl ⟨Nat.le_refl _, Nat.le_refl _⟩ ?_
      refine ax_if_ne (pc := 23) (tgt := 29) C dX6_rest_23 (by decide) (fun h23 => ?_) (fun h23 => ?_)
      · have h23 := ax_bne h23
        obtain ⟨c, hc, rfl⟩ := ax_ixN (by omega) h23
        have ec : (nI c).toNatClampNeg = c := nI_clamp (by omega)
        refine ax_aload_0 (pc := 29) C dX6_rest_29 ?_
        refine ax_getR (pc := 30) C fX6_43 dX6_rest_30 rfl rfl ?_
        refine ax_aload_0 (pc := 33) C dX6_rest_33 ?_
        refine ax_getR (pc := 34) C fX6_25 dX6_rest_34 rfl rfl ?_
        refine ax_callVi (pc := 37) C (w_X2_roundsToRest F hn (by omega) ht) kX2_roundsToRest mX6_188 dX6_rest_37 (by decide) rfl rfl rfl rfl rfl (Nat.le_of_ble_eq_true rfl) rfl ⟨Nat.le_refl _, Nat.le_refl _⟩ ?_
        refine ax_istore_2 (pc := 40) C dX6_rest_40 rfl ?_
        refine ax_iload_1 (pc := 41) C dX6_rest_41 ?_
        refine ax_iconst (pc := 42) (v := (-1)) C dX6_rest_42 (by decide) ?_
        refine ax_icmp_ne (pc := 43) (tgt := 50) C dX6_rest_43 (by decide) (fun h43 => ?_) (fun h43 => ?_)
        · refine ax_aload_0 (pc := 50) C dX6_rest_50 ?_
          refine ax_getR (pc := 51) C fX6_43 dX6_rest_51 rfl rfl ?_
          refine ax_getR (pc := 54) C fX6_192 dX6_rest_54 rfl rfl ?_
          refine ax_getR (pc := 57) C fX6_153 dX6_rest_57 rfl rfl ?_
          refine ax_iload_1 (pc := 60) C dX6_rest_60 ?_
          refine ax_ian (pc := 61) C dX6_rest_61 rfl (by omega) (by omega) ?_
          exact ax_ir (pc := 62) C rfl dX6_rest_62 (by first | with_reducible rfl | (simp only [h7, h15, h23, h43, if_true, if_false, true_and, and_true, false_and, and_false, not_false_eq_true, not_true_eq_false, ec]; done) | (simp only [h7, h15, h23, h43, if_true, if_false, true_and, and_true, false_and, and_false, not_false_eq_true, not_true_eq_false, ec]; with_reducible rfl)) (by first | with_reducible rfl | (simp only [h7, h15, h23, h43, if_true, if_false, true_and, and_true, false_and, and_false, not_false_eq_true, not_true_eq_false, ec, or_true, true_or, or_false, false_or]; done) | (simp only [h7, h15, h23, h43, if_true, if_false, true_and, and_true, false_and, and_false, not_false_eq_true, not_true_eq_false, ec, or_true, true_or, or_false, false_or]; with_reducible rfl))
        · exact absurd h43 h15
      · have h23 := ax_beq h23
        refine ax_ldc (pc := 26) C dX6_rest_26 qX6_63 ?_
        exact ax_ir (pc := 28) C rfl dX6_rest_28 (by first | with_reducible rfl | (simp only [h7, h15, h23, if_true, if_false, true_and, and_true, false_and, and_false, not_false_eq_true, not_true_eq_false]; done) | (simp only [h7, h15, h23, if_true, if_false, true_and, and_true, false_and, and_false, not_false_eq_true, not_true_eq_false]; with_reducible rfl)) (by first | with_reducible rfl | (simp only [h7, h15, h23, if_true, if_false, true_and, and_true, false_and, and_false, not_false_eq_true, not_true_eq_false, or_true, true_or, or_false, false_or]; done) | (simp only [h7, h15, h23, if_true, if_false, true_and, and_true, false_and, and_false, not_false_eq_true, not_true_eq_false, or_true, true_or, or_false, false_or]; with_reducible rfl))
  · refine ax_ldc (pc := 10) C dX6_rest_10 qX6_135 ?_
    exact ax_ir (pc := 12) C rfl dX6_rest_12 (by first | with_reducible rfl | (simp only [h7, if_true, if_false, true_and, and_true, false_and, and_false, not_false_eq_true, not_true_eq_false]; done) | (simp only [h7, if_true, if_false, true_and, and_true, false_and, and_false, not_false_eq_true, not_true_eq_false]; with_reducible rfl)) (by first | with_reducible rfl | (simp only [h7, if_true, if_false, true_and, and_true, false_and, and_false, not_false_eq_true, not_true_eq_false, or_true, true_or, or_false, false_or]; done) | (simp only [h7, if_true, if_false, true_and, and_true, false_and, and_false, not_false_eq_true, not_true_eq_false, or_true, true_or, or_false, false_or]; with_reducible rfl))

set_option maxRecDepth 20000 in
set_option maxHeartbeats 4000000 in
theorem w_X6_thought {Y : ax_Y} {ad : Nat → Nat} (F : ax_F Y) {l : Launch} {σ : ax_Z} {n : Nat} (hn : σ 14 10 = nI n) (h6 : n ≤ 6) (ht : σ 14 9 = 0 ∨ σ 14 9 = 1) {cart hr : Int32} : ax_m Y ad l iX6_thought 5 σ [.ref (ad 0), .int cart, .int hr] (some (.int (if (0 ≤ cart ∧ cart ≤ nI n - 1) ∧ (0 ≤ hr ∧ hr ≤ 11) then nI (ms_k (th_f (hp_K (hp_bc σ 29 14) 29 n) cart.toNatClampNeg hr) 12) else -1000001))) (if (0 ≤ cart ∧ cart ≤ nI n - 1) ∧ (0 ≤ hr ∧ hr ≤ 11) then tb_it (hp_bc σ 29 14) n cart.toNatClampNeg 12 else σ) := by
  refine ax_m.of F kX6_thought.1 [some (.ref (ad 0)), some (.int (cart)), some (.int (hr))] rfl (Nat.le_of_ble_eq_true rfl) (fun x C => ?_)
  refine ax_aload_0 (pc := 0) C dX6_thought_0 ?_
  refine ax_iload_1 (pc := 1) C dX6_thought_1 ?_
  refine ax_callVi (pc := 2) C (w_X6_isCartN F hn) kX6_isCart mX6_146 dX6_thought_2 (by decide) rfl rfl rfl rfl rfl (Nat.le_of_ble_eq_true rfl) rfl ⟨Nat.le_refl _, Nat.le_refl _⟩ ?_
  refine ax_if_eq (pc := 5) (tgt := 15) C dX6_thought_5 (by decide) (fun h5 => ?_) (fun h5 => ?_)
  · have h5 := ax_beq h5
    refine ax_ldc (pc := 15) C dX6_thought_15 qX6_63 ?_
    exact ax_ir (pc := 17) C rfl dX6_thought_17 (by first | with_reducible rfl | (simp only [h5, if_true, if_false, true_and, and_true, false_and, and_false, not_false_eq_true, not_true_eq_false]; done) | (simp only [h5, if_true, if_false, true_and, and_true, false_and, and_false, not_false_eq_true, not_true_eq_false]; with_reducible rfl)) (by first | with_reducible rfl | (simp only [h5, if_true, if_false, true_and, and_true, false_and, and_false, not_false_eq_true, not_true_eq_false]; done) | (simp only [h5, if_true, if_false, true_and, and_true, false_and, and_false, not_false_eq_true, not_true_eq_false]; with_reducible rfl))
  · have h5 := ax_bne h5
    refine ax_iload_2 (pc := 8) C dX6_thought_8 ?_
    refine ax_callSi (pc := 9) C (w_X6_isHour F) kX6_isHour mX6_195 dX6_thought_9 (by decide) rfl rfl (Nat.le_of_ble_eq_true rfl) rfl ⟨Nat.le_refl _, Nat.le_refl _⟩ ?_
    refine ax_if_ne (pc := 12) (tgt := 18) C dX6_thought_12 (by decide) (fun h12 => ?_) (fun h12 => ?_)
    · have h12 := ax_bne h12
      obtain ⟨c, hc, rfl⟩ := ax_ixN (by omega) h5
      have ec : (nI c).toNatClampNeg = c := nI_clamp (by omega)
      refine ax_aload_0 (pc := 18) C dX6_thought_18 ?_
      refine ax_getR (pc := 19) C fX6_43 dX6_thought_19 rfl rfl ?_
      refine ax_aload_0 (pc := 22) C dX6_thought_22 ?_
      refine ax_getR (pc := 23) C fX6_25 dX6_thought_23 rfl rfl ?_
      refine ax_iload_1 (pc := 26) C dX6_thought_26 ?_
      refine ax_iload_2 (pc := 27) C dX6_thought_27 ?_
      refine ax_callVi (pc := 28) C (w_X2_patiencesToGoIn F hn (by omega) ht (by omega)) kX2_patiencesToGoIn mX6_198 dX6_thought_28 (by decide) rfl rfl rfl rfl rfl (Nat.le_of_ble_eq_true rfl) rfl ⟨Nat.le_refl _, Nat.le_refl _⟩ ?_
      exact ax_ir (pc := 31) C rfl dX6_thought_31 (by first | with_reducible rfl | (simp only [h5, h12, if_true, if_false, true_and, and_true, false_and, and_false, not_false_eq_true, not_true_eq_false, ec]; done) | (simp only [h5, h12, if_true, if_false, true_and, and_true, false_and, and_false, not_false_eq_true, not_true_eq_false, ec]; with_reducible rfl)) (by first | with_reducible rfl | (simp only [h5, h12, if_true, if_false, true_and, and_true, false_and, and_false, not_false_eq_true, not_true_eq_false, ec]; done) | (simp only [h5, h12, if_true, if_false, true_and, and_true, false_and, and_false, not_false_eq_true, not_true_eq_false, ec]; with_reducible rfl))
    · have h12 := ax_beq h12
      refine ax_ldc (pc := 15) C dX6_thought_15 qX6_63 ?_
      exact ax_ir (pc := 17) C rfl dX6_thought_17 (by first | with_reducible rfl | (simp only [h5, h12, if_true, if_false, true_and, and_true, false_and, and_false, not_false_eq_true, not_true_eq_false]; done) | (simp only [h5, h12, if_true, if_false, true_and, and_true, false_and, and_false, not_false_eq_true, not_true_eq_false]; with_reducible rfl)) (by first | with_reducible rfl | (simp only [h5, h12, if_true, if_false, true_and, and_true, false_and, and_false, not_false_eq_true, not_true_eq_false]; done) | (simp only [h5, h12, if_true, if_false, true_and, and_true, false_and, and_false, not_false_eq_true, not_true_eq_false]; with_reducible rfl))

set_option maxRecDepth 20000 in
set_option maxHeartbeats 4000000 in
theorem w_X6_size {Y : ax_Y} {ad : Nat → Nat} (F : ax_F Y) {l : Launch} {σ : ax_Z} {n : Nat} (hn : σ 14 10 = nI n) (h6 : n ≤ 6) : ax_m Y ad l iX6_size 3 σ [.ref (ad 0)] (some (.int (if σ 14 9 = 0 then -1000002 else nI (hs_cs (σ 15) 6)))) σ := by
  refine ax_m.of F kX6_size.1 [some (.ref (ad 0))] rfl (Nat.le_of_ble_eq_true rfl) (fun x C => ?_)
  refine ax_aload_0 (pc := 0) C dX6_size_0 ?_
  refine ax_getR (pc := 1) C fX6_25 dX6_size_1 rfl rfl ?_
  refine ax_getI (pc := 4) C fX6_132 dX6_size_4 rfl rfl ?_
  refine ax_if_eq (pc := 7) (tgt := 20) C dX6_size_7 (by decide) (fun h7 => ?_) (fun h7 => ?_)
  · refine ax_ldc (pc := 20) C dX6_size_20 qX6_135 ?_
    exact ax_ir (pc := 22) C rfl dX6_size_22 (by first | with_reducible rfl | (simp only [h7, if_true, if_false, true_and, and_true, false_and, and_false, not_false_eq_true, not_true_eq_false]; done) | (simp only [h7, if_true, if_false, true_and, and_true, false_and, and_false, not_false_eq_true, not_true_eq_false]; with_reducible rfl)) rfl
  · refine ax_aload_0 (pc := 10) C dX6_size_10 ?_
    refine ax_getR (pc := 11) C fX6_25 dX6_size_11 rfl rfl ?_
    refine ax_callVi (pc := 14) C (w_X3_cheapestSize F ax_now) kX3_cheapestSize mX6_213 dX6_size_14 (by decide) rfl rfl rfl rfl rfl (Nat.le_of_ble_eq_true rfl) rfl ⟨Nat.le_refl _, Nat.le_refl _⟩ ?_
    refine ax_goto (pc := 17) (tgt := 22) C dX6_size_17 (by decide) ?_
    exact ax_ir (pc := 22) C rfl dX6_size_22 (by first | with_reducible rfl | (simp only [h7, if_true, if_false, true_and, and_true, false_and, and_false, not_false_eq_true, not_true_eq_false]; done) | (simp only [h7, if_true, if_false, true_and, and_true, false_and, and_false, not_false_eq_true, not_true_eq_false]; with_reducible rfl)) rfl

set_option maxRecDepth 20000 in
set_option maxHeartbeats 4000000 in
theorem w_X6_book {Y : ax_Y} {ad : Nat → Nat} (F : ax_F Y) {l : Launch} {σ : ax_Z} {n : Nat} (hn : σ 14 10 = nI n) (h6 : n ≤ 6) (ht : σ 14 9 = 0 ∨ σ 14 9 = 1) {cart k : Int32} : ax_m Y ad l iX6_book 5 σ [.ref (ad 0), .int cart, .int k] (some (.int (if (0 ≤ cart ∧ cart ≤ nI n - 1) ∧ (1 ≤ k ∧ k ≤ 30) then bo_f (hp_K (hp_bc σ 29 14) 29 n) k.toNatClampNeg cart.toNatClampNeg else -1000001))) (if (0 ≤ cart ∧ cart ≤ nI n - 1) ∧ (1 ≤ k ∧ k ≤ 30) then bk_S (hp_bc σ 29 14) n k.toNatClampNeg else σ) := by
  refine ax_m.of F kX6_book.1 [some (.ref (ad 0)), some (.int (cart)), some (.int (k))] rfl (Nat.le_of_ble_eq_true rfl) (fun x C => ?_)
  refine ax_aload_0 (pc := 0) C dX6_book_0 ?_
  refine ax_iload_1 (pc := 1) C dX6_book_1 ?_
  refine ax_callVi (pc := 2) C (w_X6_isCartN F hn) kX6_isCart mX6_146 dX6_book_2 (by decide) rfl rfl rfl rfl rfl (Nat.le_of_ble_eq_true rfl) rfl ⟨Nat.le_refl _, Nat.le_refl _⟩ ?_
  refine ax_if_eq (pc := 5) (tgt := 18) C dX6_book_5 (by decide) (fun h5 => ?_) (fun h5 => ?_)
  · have h5 := ax_beq h5
    refine ax_ldc (pc := 18) C dX6_book_18 qX6_63 ?_
    exact ax_ir (pc := 20) C rfl dX6_book_20 (by first | with_reducible rfl | (simp only [h5, if_true, if_false, true_and, and_true, false_and, and_false, not_false_eq_true, not_true_eq_false]; done) | (simp only [h5, if_true, if_false, true_and, and_true, false_and, and_false, not_false_eq_true, not_true_eq_false]; with_reducible rfl)) (by first | with_reducible rfl | (simp only [h5, if_true, if_false, true_and, and_true, false_and, and_false, not_false_eq_true, not_true_eq_false]; done) | (simp only [h5, if_true, if_false, true_and, and_true, false_and, and_false, not_false_eq_true, not_true_eq_false]; with_reducible rfl))
  · have h5 := ax_bne h5
    refine ax_iload_2 (pc := 8) C dX6_book_8 ?_
    refine ax_iconst (pc := 9) (v := 1) C dX6_book_9 (by decide) ?_
    refine ax_bipush (pc := 10) (v := 30) C dX6_book_10 (by decide) ?_
    refine ax_callSi (pc := 12) C (w_X6_isWithin F) kX6_isWithin mX6_59 dX6_book_12 (by decide) rfl rfl (Nat.le_of_ble_eq_true rfl) rfl ⟨Nat.le_refl _, Nat.le_refl _⟩ ?_
    refine ax_if_ne (pc := 15) (tgt := 21) C dX6_book_15 (by decide) (fun h15 => ?_) (fun h15 => ?_)
    · have h15 := ax_bne h15
      obtain ⟨c, hc, rfl⟩ := ax_ixN (by omega) h5
      have ec : (nI c).toNatClampNeg = c := nI_clamp (by omega)
      obtain ⟨d, hd, rfl⟩ := ax_ix (m := 30) (by decide) (show 0 ≤ k ∧ k ≤ 30 from ⟨Int32.le_trans (by decide) h15.1, h15.2⟩)
      have ed : (nI d).toNatClampNeg = d := nI_clamp (by omega)
      refine ax_aload_0 (pc := 21) C dX6_book_21 ?_
      refine ax_getR (pc := 22) C fX6_43 dX6_book_22 rfl rfl ?_
      refine ax_aload_0 (pc := 25) C dX6_book_25 ?_
      refine ax_getR (pc := 26) C fX6_25 dX6_book_26 rfl rfl ?_
      refine ax_iload_1 (pc := 29) C dX6_book_29 ?_
      refine ax_iload_2 (pc := 30) C dX6_book_30 ?_
      refine ax_callVi (pc := 31) C (w_X2_timesFirst F hn (by omega) ht (by omega) (by omega)) kX2_timesFirst mX6_216 dX6_book_31 (by decide) rfl rfl rfl rfl rfl (Nat.le_of_ble_eq_true rfl) rfl ⟨Nat.le_refl _, Nat.le_refl _⟩ ?_
      exact ax_ir (pc := 34) C rfl dX6_book_34 (by first | with_reducible rfl | (simp only [h5, h15, if_true, if_false, true_and, and_true, false_and, and_false, not_false_eq_true, not_true_eq_false, ec, ed]; done) | (simp only [h5, h15, if_true, if_false, true_and, and_true, false_and, and_false, not_false_eq_true, not_true_eq_false, ec, ed]; with_reducible rfl)) (by first | with_reducible rfl | (simp only [h5, h15, if_true, if_false, true_and, and_true, false_and, and_false, not_false_eq_true, not_true_eq_false, ec, ed]; done) | (simp only [h5, h15, if_true, if_false, true_and, and_true, false_and, and_false, not_false_eq_true, not_true_eq_false, ec, ed]; with_reducible rfl))
    · have h15 := ax_beq h15
      refine ax_ldc (pc := 18) C dX6_book_18 qX6_63 ?_
      exact ax_ir (pc := 20) C rfl dX6_book_20 (by first | with_reducible rfl | (simp only [h5, h15, if_true, if_false, true_and, and_true, false_and, and_false, not_false_eq_true, not_true_eq_false]; done) | (simp only [h5, h15, if_true, if_false, true_and, and_true, false_and, and_false, not_false_eq_true, not_true_eq_false]; with_reducible rfl)) (by first | with_reducible rfl | (simp only [h5, h15, if_true, if_false, true_and, and_true, false_and, and_false, not_false_eq_true, not_true_eq_false]; done) | (simp only [h5, h15, if_true, if_false, true_and, and_true, false_and, and_false, not_false_eq_true, not_true_eq_false]; with_reducible rfl))

set_option maxRecDepth 20000 in
set_option maxHeartbeats 4000000 in
theorem w_X6_goat {Y : ax_Y} {ad : Nat → Nat} (F : ax_F Y) {l : Launch} {σ : ax_Z} {n : Nat} (hn : σ 14 10 = nI n) (h6 : n ≤ 6) (ht : σ 14 9 = 0 ∨ σ 14 9 = 1) {cart hr : Int32} : ax_m Y ad l iX6_goat 6 σ [.ref (ad 0), .int cart, .int hr] (some (.int (if (0 ≤ cart ∧ cart ≤ nI n - 1) ∧ (0 ≤ hr ∧ hr ≤ 11) then (dd_x (go_K (hp_K (hp_bc σ 29 14) 29 n) hr) ((hp_bc σ 29 14) 33) cart.toNatClampNeg + DP (go_K (hp_K (hp_bc σ 29 14) 29 n) hr) n - dd_x (hp_K (hp_bc σ 29 14) 29 n) ((hp_bc σ 29 14) 33) cart.toNatClampNeg) else -1000001))) (if (0 ≤ cart ∧ cart ≤ nI n - 1) ∧ (0 ≤ hr ∧ hr ≤ 11) then hp_dy (gt_S (hp_dy (hp_bc σ 29 14) 29 n) n hr) 29 (n + 1) else σ) := by
  refine ax_m.of F kX6_goat.1 [some (.ref (ad 0)), some (.int (cart)), some (.int (hr))] rfl (Nat.le_of_ble_eq_true rfl) (fun x C => ?_)
  refine ax_aload_0 (pc := 0) C dX6_goat_0 ?_
  refine ax_iload_1 (pc := 1) C dX6_goat_1 ?_
  refine ax_callVi (pc := 2) C (w_X6_isCartN F hn) kX6_isCart mX6_146 dX6_goat_2 (by decide) rfl rfl rfl rfl rfl (Nat.le_of_ble_eq_true rfl) rfl ⟨Nat.le_refl _, Nat.le_refl _⟩ ?_
  refine ax_if_eq (pc := 5) (tgt := 15) C dX6_goat_5 (by decide) (fun h5 => ?_) (fun h5 => ?_)
  · have h5 := ax_beq h5
    refine ax_ldc (pc := 15) C dX6_goat_15 qX6_63 ?_
    exact ax_ir (pc := 17) C rfl dX6_goat_17 (by first | with_reducible rfl | (simp only [h5, if_true, if_false, true_and, and_true, false_and, and_false, not_false_eq_true, not_true_eq_false]; done) | (simp only [h5, if_true, if_false, true_and, and_true, false_and, and_false, not_false_eq_true, not_true_eq_false]; with_reducible rfl)) (by first | with_reducible rfl | (simp only [h5, if_true, if_false, true_and, and_true, false_and, and_false, not_false_eq_true, not_true_eq_false]; done) | (simp only [h5, if_true, if_false, true_and, and_true, false_and, and_false, not_false_eq_true, not_true_eq_false]; with_reducible rfl))
  · have h5 := ax_bne h5
    refine ax_iload_2 (pc := 8) C dX6_goat_8 ?_
    refine ax_callSi (pc := 9) C (w_X6_isHour F) kX6_isHour mX6_195 dX6_goat_9 (by decide) rfl rfl (Nat.le_of_ble_eq_true rfl) rfl ⟨Nat.le_refl _, Nat.le_refl _⟩ ?_
    refine ax_if_ne (pc := 12) (tgt := 18) C dX6_goat_12 (by decide) (fun h12 => ?_) (fun h12 => ?_)
    · have h12 := ax_bne h12
      obtain ⟨c, hc, rfl⟩ := ax_ixN (by omega) h5
      have ec : (nI c).toNatClampNeg = c := nI_clamp (by omega)
      refine ax_aload_0 (pc := 18) C dX6_goat_18 ?_
      refine ax_getR (pc := 19) C fX6_43 dX6_goat_19 rfl rfl ?_
      refine ax_aload_0 (pc := 22) C dX6_goat_22 ?_
      refine ax_getR (pc := 23) C fX6_25 dX6_goat_23 rfl rfl ?_
      refine ax_iload_1 (pc := 26) C dX6_goat_26 ?_
      refine ax_iload_2 (pc := 27) C dX6_goat_27 ?_
      refine ax_callVi (pc := 28) C (w_X2_costOfGoat F hn h6 ht hc) kX2_costOfGoat mX6_222 dX6_goat_28 (by decide) rfl rfl rfl rfl rfl (Nat.le_of_ble_eq_true rfl) rfl ⟨Nat.le_refl _, Nat.le_refl _⟩ ?_
      exact ax_ir (pc := 31) C rfl dX6_goat_31 (by first | with_reducible rfl | (simp only [h5, h12, if_true, if_false, true_and, and_true, false_and, and_false, not_false_eq_true, not_true_eq_false, ec]; done) | (simp only [h5, h12, if_true, if_false, true_and, and_true, false_and, and_false, not_false_eq_true, not_true_eq_false, ec]; with_reducible rfl)) (by first | with_reducible rfl | (simp only [h5, h12, if_true, if_false, true_and, and_true, false_and, and_false, not_false_eq_true, not_true_eq_false, ec]; done) | (simp only [h5, h12, if_true, if_false, true_and, and_true, false_and, and_false, not_false_eq_true, not_true_eq_false, ec]; with_reducible rfl))
    · have h12 := ax_beq h12
      refine ax_ldc (pc := 15) C dX6_goat_15 qX6_63 ?_
      exact ax_ir (pc := 17) C rfl dX6_goat_17 (by first | with_reducible rfl | (simp only [h5, h12, if_true, if_false, true_and, and_true, false_and, and_false, not_false_eq_true, not_true_eq_false]; done) | (simp only [h5, h12, if_true, if_false, true_and, and_true, false_and, and_false, not_false_eq_true, not_true_eq_false]; with_reducible rfl)) (by first | with_reducible rfl | (simp only [h5, h12, if_true, if_false, true_and, and_true, false_and, and_false, not_false_eq_true, not_true_eq_false]; done) | (simp only [h5, h12, if_true, if_false, true_and, and_true, false_and, and_false, not_false_eq_true, not_true_eq_false]; with_reducible rfl))
