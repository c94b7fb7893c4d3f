def mf_b (w : Int64) (k : Nat) : Int32 := (w >>> ((8 * nI k).toInt64 &&& 63) &&& 255).toInt32
/-- the tape behind m bytes of n -/
def mf_S (σ : ax_Z) (w : Int64) (t n : Nat) : Nat → ax_Z
  | 0 => σ
  | m + 1 => ax_up (ax_up (mf_S σ w t n m) 84 (t + m) (mf_b w (n - 1 - m))) 77 11 (nI (t + m + 1))
theorem mf_S_l {σ : ax_Z} {w : Int64} {t n m : Nat} (h : σ 77 11 = nI t) : mf_S σ w t n m 77 11 = nI (t + m) := by
  cases m with
  | zero => exact h
  | succ m => rw [mf_S, up_s]; rfl
/-- within one row of numbers: n come from s to d; the first k are there -/
def cpu (σ : ax_Z) (s d k : Nat) : ax_Z := fun x y => if x = 80 ∧ d ≤ y ∧ y < d + k then σ 80 (s + (y - d)) else σ x y
theorem cpu_0 {σ : ax_Z} {s d : Nat} : cpu σ s d 0 = σ := by
  funext x y
  unfold cpu
  rw [if_neg (by omega)]
theorem cpu_s {σ : ax_Z} {s d k : Nat} (h : d ≤ s ∨ s + k < d) : ax_up (cpu σ s d k) 80 (d + k) (cpu σ s d k 80 (s + k)) = cpu σ s d (k + 1) := by
  have e0 : cpu σ s d k 80 (s + k) = σ 80 (s + k) := if_neg (by omega)
  rw [e0]
  funext x y
  unfold ax_up
  by_cases e : x = 80 ∧ y = d + k
  · rw [if_pos e]
    unfold cpu
    rw [if_pos ⟨e.1, by omega, by omega⟩, e.2, Nat.add_sub_cancel_left]
  · rw [if_neg e]
    unfold cpu
    by_cases e2 : x = 80 ∧ d ≤ y ∧ y < d + k
    · rw [if_pos e2, if_pos ⟨e2.1, e2.2.1, by omega⟩]
    · rw [if_neg e2, if_neg (fun z => e2 ⟨z.1, z.2.1, by
        have : y ≠ d + k := fun q => e ⟨z.1, q⟩
        omega⟩)]
/-- the last k are there -/
def cpd (σ : ax_Z) (s d n k : Nat) : ax_Z := fun x y => if x = 80 ∧ d + (n - k) ≤ y ∧ y < d + n then σ 80 (s + (y - d)) else σ x y
theorem cpd_0 {σ : ax_Z} {s d n : Nat} : cpd σ s d n 0 = σ := by
  funext x y
  unfold cpd
  rw [if_neg (by omega)]
theorem cpd_s {σ : ax_Z} {s d n k : Nat} (hk : k < n) (h : s < d ∨ d + n ≤ s) : ax_up (cpd σ s d n k) 80 (d + (n - 1 - k)) (cpd σ s d n k 80 (s + (n - 1 - k))) = cpd σ s d n (k + 1) := by
  have e0 : cpd σ s d n k 80 (s + (n - 1 - k)) = σ 80 (s + (n - 1 - k)) := if_neg (by omega)
  rw [e0]
  funext x y
  unfold ax_up
  by_cases e : x = 80 ∧ y = d + (n - 1 - k)
  · rw [if_pos e]
    unfold cpd
    rw [if_pos ⟨e.1, by omega, by omega⟩, e.2, Nat.add_sub_cancel_left]
  · rw [if_neg e]
    unfold cpd
    by_cases e2 : x = 80 ∧ d + (n - k) ≤ y ∧ y < d + n
    · rw [if_pos e2, if_pos ⟨e2.1, by omega, e2.2.2⟩]
    · rw [if_neg e2, if_neg (fun z => e2 ⟨z.1, by
        have : y ≠ d + (n - 1 - k) := fun q => e ⟨z.1, q⟩
        omega, z.2.2⟩)]
theorem cpd_n {σ : ax_Z} {s d n : Nat} : cpd σ s d n n = cpu σ s d n := by
  funext x y
  unfold cpd cpu
  rw [Nat.sub_self, Nat.add_zero]

theorem mk_ne {σ : ax_Z} {m a : Nat} (h : a ≠ 77 ∧ a ≠ 83) : mk_keep σ m a = σ a := by
  unfold mk_keep
  split
  · unfold mk_put mk_sh
    rw [up_ne h.1, cpn_ne h.2, up_ne h.1, shd_ne h.2]
  · unfold mk_put
    rw [up_ne h.1, cpn_ne h.2]
set_option maxRecDepth 20000 in
set_option maxHeartbeats 4000000 in
theorem w_X7_waits {Y : ax_Y} {ad : Nat → Nat} (F : ax_F Y) {l : Launch} {σ : ax_Z} {n : Nat} (hn : σ 81 0 = nI n) (h6 : n ≤ 6) {m : Nat} (hm : σ 77 9 = nI m) (h24 : m ≤ 24) {cart pt : Int32} : ax_m Y ad l iX7_waits 2 σ [.ref (ad 77), .int cart, .int pt] (some (.int (if (0 ≤ cart ∧ cart ≤ nI n - 1) ∧ (0 ≤ pt ∧ pt ≤ 11) then (if (ax_up σ 77 0 0) 81 (8 + 6 * cart.toNatClampNeg + 4) = -1000000 then (mk_keep (ax_up σ 77 0 0) m) 81 (8 + 6 * cart.toNatClampNeg + 3) else -1000002) else -1000001))) (if (0 ≤ cart ∧ cart ≤ nI n - 1) ∧ (0 ≤ pt ∧ pt ≤ 11) then (if (ax_up σ 77 0 0) 81 (8 + 6 * cart.toNatClampNeg + 4) = -1000000 then ax_up (mk_keep (ax_up σ 77 0 0) m) 81 (8 + 6 * cart.toNatClampNeg + 3) pt else (ax_up σ 77 0 0)) else (ax_up σ 77 0 0)) := by
  refine ax_m.of F kX7_waits.1 [some (.ref (ad 77)), some (.int (cart)), some (.int (pt)), none] rfl (Nat.le_of_ble_eq_true rfl) (fun x C => ?_)
  refine ax_aload_0 (pc := 0) C dX7_waits_0 ?_
  refine ax_iconst (pc := 1) (v := 0) C dX7_waits_1 (by decide) ?_
  refine ax_putI (pc := 2) C fX7_65 dX7_waits_2 rfl rfl rfl rfl ?_
  refine ax_aload_0 (pc := 5) C dX7_waits_5 ?_
  refine ax_iload_1 (pc := 6) C dX7_waits_6 ?_
  refine ax_callVi (pc := 7) C (w_X7_isCart F (n := n) (by rw [up_ne (by decide)]; exact hn)) kX7_isCart mX7_230 dX7_waits_7 (by decide) rfl rfl rfl rfl rfl (Nat.le_of_ble_eq_true rfl) rfl ⟨Nat.le_refl _, Nat.le_refl _⟩ ?_
  refine ax_if_eq (pc := 10) (tgt := 25) C dX7_waits_10 (by decide) (fun h10 => ?_) (fun h10 => ?_)
  · have h10 := ax_beq h10
    refine ax_ldc (pc := 25) C dX7_waits_25 qX7_85 ?_
    exact ax_ir (pc := 27) C rfl dX7_waits_27 (by first | with_reducible rfl | (simp only [h10, if_true, if_false, true_and, and_true, false_and, and_false, not_false_eq_true, not_true_eq_false]; done) | (simp only [h10, if_true, if_false, true_and, and_true, false_and, and_false, not_false_eq_true, not_true_eq_false]; with_reducible rfl)) (by first | with_reducible rfl | (simp only [h10, if_true, if_false, true_and, and_true, false_and, and_false, not_false_eq_true, not_true_eq_false]; done) | (simp only [h10, if_true, if_false, true_and, and_true, false_and, and_false, not_false_eq_true, not_true_eq_false]; with_reducible rfl))
  · have h10 := ax_bne h10
    refine ax_iload_2 (pc := 13) C dX7_waits_13 ?_
    refine ax_i2l (pc := 14) C dX7_waits_14 ?_
    refine ax_lconst (pc := 15) (v := 0) C dX7_waits_15 (by decide) ?_
    refine ax_ldc2 (pc := 16) C dX7_waits_16 qX7_193 ?_
    refine ax_callSi (pc := 19) C (w_X7_in F (lo := (0)) (hi := (11)) rfl rfl) kX7_in mX7_75 dX7_waits_19 (by decide) rfl rfl (Nat.le_of_ble_eq_true rfl) rfl ⟨Nat.le_refl _, Nat.le_refl _⟩ ?_
    refine ax_if_ne (pc := 22) (tgt := 28) C dX7_waits_22 (by decide) (fun h22 => ?_) (fun h22 => ?_)
    · have h22 := ax_bne h22
      obtain ⟨c, hc, rfl⟩ := ax_ixN (by omega) h10
      have ec : (nI c).toNatClampNeg = c := nI_clamp (by omega)
      refine ax_aload_0 (pc := 28) C dX7_waits_28 ?_
      refine ax_iload_1 (pc := 29) C dX7_waits_29 ?_
      refine ax_iconst (pc := 30) (v := 4) C dX7_waits_30 (by decide) ?_
      refine ax_callVi (pc := 31) C (w_X7_of F (k := 4) (by omega) (by decide)) kX7_of mX7_201 dX7_waits_31 (by decide) rfl rfl rfl rfl rfl (Nat.le_of_ble_eq_true rfl) rfl ⟨Nat.le_refl _, Nat.le_refl _⟩ ?_
      refine ax_ldc (pc := 34) C dX7_waits_34 qX7_101 ?_
      refine ax_icmp_eq (pc := 36) (tgt := 42) C dX7_waits_36 (by decide) (fun h36 => ?_) (fun h36 => ?_)
      · refine ax_aload_0 (pc := 42) C dX7_waits_42 ?_
        refine ax_callVv (pc := 43) C (w_X7_keep F (m := m) (by rw [up_o (by decide)]; exact hm) h24) kX7_keep mX7_224 dX7_waits_43 (by decide) rfl rfl rfl rfl rfl (Nat.le_of_ble_eq_true rfl) rfl ⟨Nat.le_refl _, Nat.le_refl _⟩ ?_
        refine ax_aload_0 (pc := 46) C dX7_waits_46 ?_
        refine ax_iload_1 (pc := 47) C dX7_waits_47 ?_
        refine ax_iconst (pc := 48) (v := 3) C dX7_waits_48 (by decide) ?_
        refine ax_callVi (pc := 49) C (w_X7_of F (k := 3) (by omega) (by decide)) kX7_of mX7_201 dX7_waits_49 (by decide) rfl rfl rfl rfl rfl (Nat.le_of_ble_eq_true rfl) rfl ⟨Nat.le_refl _, Nat.le_refl _⟩ ?_
        refine ax_istore_3 (pc := 52) C dX7_waits_52 rfl ?_
        refine ax_aload_0 (pc := 53) C dX7_waits_53 ?_
        refine ax_getR (pc := 54) C fX7_19 dX7_waits_54 rfl rfl ?_
        refine ax_bipush (pc := 57) (v := 8) C dX7_waits_57 (by decide) ?_
        refine ax_bipush (pc := 59) (v := 6) C dX7_waits_59 (by decide) ?_
        refine ax_iload_1 (pc := 61) C dX7_waits_61 ?_
        refine ax_imul (pc := 62) C dX7_waits_62 ?_
        refine ax_iadd (pc := 63) C dX7_waits_63 ?_
        refine ax_iconst (pc := 64) (v := 3) C dX7_waits_64 (by decide) ?_
        refine ax_iadd (pc := 65) C dX7_waits_65 ?_
        refine ax_iload_2 (pc := 66) C dX7_waits_66 ?_
        refine ax_ise (pc := 67) (c := 8 + 6 * c + 3) C dX7_waits_67 rfl (ix8 (k := 3)) (by omega) (by decide) ?_
        refine ax_iload_3 (pc := 68) C dX7_waits_68 ?_
        exact ax_ir (pc := 69) C rfl dX7_waits_69 (by first | with_reducible rfl | (simp only [h10, h22, h36, if_true, if_false, true_and, and_true, false_and, and_false, not_false_eq_true, not_true_eq_false, ec]; done) | (simp only [h10, h22, h36, if_true, if_false, true_and, and_true, false_and, and_false, not_false_eq_true, not_true_eq_false, ec]; with_reducible rfl)) (by first | with_reducible rfl | (simp only [h10, h22, h36, if_true, if_false, true_and, and_true, false_and, and_false, not_false_eq_true, not_true_eq_false, ec]; done) | (simp only [h10, h22, h36, if_true, if_false, true_and, and_true, false_and, and_false, not_false_eq_true, not_true_eq_false, ec]; with_reducible rfl))
      · refine ax_ldc (pc := 39) C dX7_waits_39 qX7_223 ?_
        exact ax_ir (pc := 41) C rfl dX7_waits_41 (by first | with_reducible rfl | (simp only [h10, h22, h36, if_true, if_false, true_and, and_true, false_and, and_false, not_false_eq_true, not_true_eq_false, ec]; done) | (simp only [h10, h22, h36, if_true, if_false, true_and, and_true, false_and, and_false, not_false_eq_true, not_true_eq_false, ec]; with_reducible rfl)) (by first | with_reducible rfl | (simp only [h10, h22, h36, if_true, if_false, true_and, and_true, false_and, and_false, not_false_eq_true, not_true_eq_false, ec]; done) | (simp only [h10, h22, h36, if_true, if_false, true_and, and_true, false_and, and_false, not_false_eq_true, not_true_eq_false, ec]; with_reducible rfl))
    · have h22 := ax_beq h22
      refine ax_ldc (pc := 25) C dX7_waits_25 qX7_85 ?_
      exact ax_ir (pc := 27) C rfl dX7_waits_27 (by first | with_reducible rfl | (simp only [h10, h22, if_true, if_false, true_and, and_true, false_and, and_false, not_false_eq_true, not_true_eq_false]; done) | (simp only [h10, h22, if_true, if_false, true_and, and_true, false_and, and_false, not_false_eq_true, not_true_eq_false]; with_reducible rfl)) (by first | with_reducible rfl | (simp only [h10, h22, if_true, if_false, true_and, and_true, false_and, and_false, not_false_eq_true, not_true_eq_false]; done) | (simp only [h10, h22, if_true, if_false, true_and, and_true, false_and, and_false, not_false_eq_true, not_true_eq_false]; with_reducible rfl))

set_option maxRecDepth 20000 in
set_option maxHeartbeats 4000000 in
theorem w_X7_undo_0 {Y : ax_Y} {ad : Nat → Nat} (F : ax_F Y) {l : Launch} {σ : ax_Z} (hm : σ 77 9 = 0) : ax_m Y ad l iX7_undo 0 σ [.ref (ad 77)] (some (.int (-1000002))) (ax_up σ 77 0 0) := by
  refine ax_m.of F kX7_undo.1 [some (.ref (ad 77)), none] rfl (Nat.le_of_ble_eq_true rfl) (fun x C => ?_)
  refine ax_aload_0 (pc := 0) C dX7_undo_0 ?_
  refine ax_iconst (pc := 1) (v := 0) C dX7_undo_1 (by decide) ?_
  refine ax_putI (pc := 2) C fX7_65 dX7_undo_2 rfl rfl rfl rfl ?_
  refine ax_aload_0 (pc := 5) C dX7_undo_5 ?_
  refine ax_getI (pc := 6) C fX7_190 dX7_undo_6 rfl rfl ?_
  refine ax_if_ne (pc := 9) (tgt := 15) C dX7_undo_9 (by decide) (fun z => False.elim (z (by rw [up_o (by decide)]; exact hm))) (fun _ => ?_)
  refine ax_ldc (pc := 12) C dX7_undo_12 qX7_223 ?_
  exact ax_ir (pc := 14) C rfl dX7_undo_14 rfl rfl

set_option maxRecDepth 20000 in
set_option maxHeartbeats 4000000 in
theorem w_X7_undo_s {Y : ax_Y} {ad : Nat → Nat} (F : ax_F Y) {l : Launch} {σ : ax_Z} {m : Nat} (hm : σ 77 9 = nI (m + 1)) (h24 : m < 24) : ax_m Y ad l iX7_undo 0 σ [.ref (ad 77)] (some (.int (nI m))) (cpn (ax_up (ax_up σ 77 0 0) 77 9 (nI m)) 83 (44 * m) 81 0 44) := by
  refine ax_m.of F kX7_undo.1 [some (.ref (ad 77)), none] rfl (Nat.le_of_ble_eq_true rfl) (fun x C => ?_)
  have loop : ∀ (q : Nat) (k : Nat), k ≤ 44 → 44 < k + q → ax_S x Y ad 0 0 (ax_Q x Y ad (some (.int (nI m))) 96 (ax_g Y ad (cpn (ax_up (ax_up σ 77 0 0) 77 9 (nI m)) 83 (44 * m) 81 0 44)) 0 0) (cpn (ax_up (ax_up σ 77 0 0) 77 9 (nI m)) 83 (44 * m) 81 0 k) 27 [some (.ref (ad 77)), some (.int (nI k))] [] := by
    intro q
    induction q with
    | zero => intro k h1 h2; exfalso; omega
    | succ q ih =>
      intro k h1 h2
      refine ax_iload_1 (pc := 27) C dX7_undo_27 ?_
      refine ax_bipush (pc := 28) (v := 44) C dX7_undo_28 (by decide) ?_
      refine ax_icmp_ge (pc := 30) (tgt := 59) C dX7_undo_30 (by decide) (fun h30 => ?_) (fun h30 => ?_)
      · have hk30 : ¬ k < 44 := fun z => nI_ge (a := k) (b := 44) z (by decide) h30
        refine ax_aload_0 (pc := 59) C dX7_undo_59 ?_
        refine ax_getI (pc := 60) C fX7_190 dX7_undo_60 rfl rfl ?_
        exact ax_ir (pc := 63) C rfl dX7_undo_63 (by rw [cpn_ne (by decide), up_s]) (by rw [show k = 44 by omega])
      · have hk30 : k < 44 := Nat.lt_of_not_le (fun z => h30 (nI_le (a := 44) z (by omega)))
        refine ax_aload_0 (pc := 33) C dX7_undo_33 ?_
        refine ax_getR (pc := 34) C fX7_19 dX7_undo_34 rfl rfl ?_
        refine ax_iload_1 (pc := 37) C dX7_undo_37 ?_
        refine ax_aload_0 (pc := 38) C dX7_undo_38 ?_
        refine ax_getR (pc := 39) C fX7_25 dX7_undo_39 rfl rfl ?_
        refine ax_bipush (pc := 42) (v := 44) C dX7_undo_42 (by decide) ?_
        refine ax_aload_0 (pc := 44) C dX7_undo_44 ?_
        refine ax_getI (pc := 45) C fX7_190 dX7_undo_45 rfl rfl ?_
        refine ax_imul (pc := 48) C dX7_undo_48 ?_
        refine ax_iload_1 (pc := 49) C dX7_undo_49 ?_
        refine ax_iadd (pc := 50) C dX7_undo_50 ?_
        refine ax_iae (pc := 51) (c := 44 * m + k) C dX7_undo_51 rfl (show (44 : Int32) * cpn (ax_up (ax_up σ 77 0 0) 77 9 (nI m)) 83 (44 * m) 81 0 k 77 9 + nI k = nI (44 * m + k) by rw [cpn_ne (by decide), up_s]; exact ix44) (by omega) (by decide) ?_
        refine ax_isn (pc := 52) C dX7_undo_52 rfl (by omega) (by omega) ?_
        refine ax_iinc_1 (pc := 53) C dX7_undo_53 (1) (by decide) rfl ?_
        refine ax_goto (pc := 56) (tgt := 27) C dX7_undo_56 (by decide) ?_
        refine ax_SLeq ?_ (by rw [nI_1]) (ih (k + 1) (by omega) (by omega))
        have e := cpn_s (σ := (ax_up (ax_up σ 77 0 0) 77 9 (nI m))) (k1 := 83) (s := 44 * m) (k2 := 81) (d := 0) (n := k) (by decide)
        rw [Nat.zero_add] at e
        exact e
  refine ax_aload_0 (pc := 0) C dX7_undo_0 ?_
  refine ax_iconst (pc := 1) (v := 0) C dX7_undo_1 (by decide) ?_
  refine ax_putI (pc := 2) C fX7_65 dX7_undo_2 rfl rfl rfl rfl ?_
  refine ax_aload_0 (pc := 5) C dX7_undo_5 ?_
  refine ax_getI (pc := 6) C fX7_190 dX7_undo_6 rfl rfl ?_
  refine ax_if_ne (pc := 9) (tgt := 15) C dX7_undo_9 (by decide) (fun _ => ?_) (fun z => False.elim (nI_ne0 (n := m + 1) (by omega) (by omega) (by rw [← hm]; rw [up_o (by decide)] at z; exact z)))
  refine ax_aload_0 (pc := 15) C dX7_undo_15 ?_
  refine ax_dup (pc := 16) C dX7_undo_16 rfl ?_
  refine ax_getI (pc := 17) C fX7_190 dX7_undo_17 rfl rfl ?_
  refine ax_iconst (pc := 20) (v := 1) C dX7_undo_20 (by decide) ?_
  refine ax_isub (pc := 21) C dX7_undo_21 ?_
  refine ax_val C (show _ = nI m by rw [up_o (by decide), hm]; exact nI_pred m) ?_
  refine ax_putI (pc := 22) C fX7_190 dX7_undo_22 rfl rfl rfl rfl ?_
  refine ax_iconst (pc := 25) (v := 0) C dX7_undo_25 (by decide) ?_
  refine ax_istore_1 (pc := 26) C dX7_undo_26 rfl ?_
  exact ax_Seq cpn_0.symm (loop 45 0 (by omega) (by omega))

set_option maxRecDepth 20000 in
set_option maxHeartbeats 4000000 in
theorem w_X7_costOf {Y : ax_Y} {ad : Nat → Nat} (F : ax_F Y) {l : Launch} {σ : ax_Z} {c : Nat} (hc : c < 7) : ax_m Y ad l iX7_costOf 0 σ [.ref (ad 77), .int (nI c)] (some (.int (σ 87 c * (σ 89 c - σ 86 c) + σ 90 c))) σ := by
  refine ax_m.of F kX7_costOf.1 [some (.ref (ad 77)), some (.int (nI c))] rfl (Nat.le_of_ble_eq_true rfl) (fun x C => ?_)
  refine ax_aload_0 (pc := 0) C dX7_costOf_0 ?_
  refine ax_getR (pc := 1) C fX7_37 dX7_costOf_1 rfl rfl ?_
  refine ax_iload_1 (pc := 4) C dX7_costOf_4 ?_
  refine ax_ian (pc := 5) C dX7_costOf_5 rfl (by omega) (by omega) ?_
  refine ax_aload_0 (pc := 6) C dX7_costOf_6 ?_
  refine ax_getR (pc := 7) C fX7_43 dX7_costOf_7 rfl rfl ?_
  refine ax_iload_1 (pc := 10) C dX7_costOf_10 ?_
  refine ax_ian (pc := 11) C dX7_costOf_11 rfl (by omega) (by omega) ?_
  refine ax_aload_0 (pc := 12) C dX7_costOf_12 ?_
  refine ax_getR (pc := 13) C fX7_34 dX7_costOf_13 rfl rfl ?_
  refine ax_iload_1 (pc := 16) C dX7_costOf_16 ?_
  refine ax_ian (pc := 17) C dX7_costOf_17 rfl (by omega) (by omega) ?_
  refine ax_isub (pc := 18) C dX7_costOf_18 ?_
  refine ax_imul (pc := 19) C dX7_costOf_19 ?_
  refine ax_aload_0 (pc := 20) C dX7_costOf_20 ?_
  refine ax_getR (pc := 21) C fX7_46 dX7_costOf_21 rfl rfl ?_
  refine ax_iload_1 (pc := 24) C dX7_costOf_24 ?_
  refine ax_ian (pc := 25) C dX7_costOf_25 rfl (by omega) (by omega) ?_
  refine ax_iadd (pc := 26) C dX7_costOf_26 ?_
  exact ax_ir (pc := 27) C rfl dX7_costOf_27 rfl rfl

theorem ly_ne81 {σ : ax_Z} {n m : Nat} : ly_S σ n m 81 = σ 81 := ly_ne (by decide) (by decide)
set_option maxRecDepth 20000 in
set_option maxHeartbeats 4000000 in
theorem w_X7_layNow {Y : ax_Y} {ad : Nat → Nat} (F : ax_F Y) {l : Launch} {σ : ax_Z} {n : Nat} (hn : σ 81 0 = nI n) (h6 : n ≤ 6) : ax_m Y ad l iX7_layNow 1 σ [.ref (ad 77)] none (ly_S σ n n) := by
  refine ax_m.of F kX7_layNow.1 [some (.ref (ad 77)), none] rfl (Nat.le_of_ble_eq_true rfl) (fun x C => ?_)
  have loop : ∀ (q : Nat) (c : Nat), c ≤ n → n < c + q → ax_S x Y ad 0 0 (ax_Q x Y ad none 96 (ax_g Y ad (ly_S σ n n)) 0 0) (ly_S σ n c) 17 [some (.ref (ad 77)), some (.int (nI c))] [] := by
    intro q
    induction q with
    | zero => intro c h1 h2; exfalso; omega
    | succ q ih =>
      intro c h1 h2
      refine ax_iload_1 (pc := 17) C dX7_layNow_17 ?_
      refine ax_aload_0 (pc := 18) C dX7_layNow_18 ?_
      refine ax_getI (pc := 19) C fX7_195 dX7_layNow_19 rfl rfl ?_
      refine ax_val C ly_20 ?_
      refine ax_icmp_ge (pc := 22) (tgt := 103) C dX7_layNow_22 (by decide) (fun h22 => ?_) (fun h22 => ?_)
      · have hcn : ¬ c < n := fun z => nI_ge z (by omega) h22
        exact ax_vr (pc := 103) C rfl dX7_layNow_103 (by rw [show c = n by omega])
      · have hcn : c < n := Nat.lt_of_not_le (fun z => h22 (nI_le z (by omega)))
        refine ax_aload_0 (pc := 25) C dX7_layNow_25 ?_
        refine ax_getR (pc := 26) C fX7_31 dX7_layNow_26 rfl rfl ?_
        refine ax_iload_1 (pc := 29) C dX7_layNow_29 ?_
        refine ax_aload_0 (pc := 30) C dX7_layNow_30 ?_
        refine ax_iload_1 (pc := 31) C dX7_layNow_31 ?_
        refine ax_iconst (pc := 32) (v := 0) C dX7_layNow_32 (by decide) ?_
        refine ax_callVi (pc := 33) C (w_X7_of F (k := 0) (by omega) (by decide)) kX7_of mX7_201 dX7_layNow_33 (by decide) rfl rfl rfl rfl rfl (Nat.le_of_ble_eq_true rfl) rfl ⟨Nat.le_refl _, Nat.le_refl _⟩ ?_
        refine ax_val C (show _ = σ 81 (8 + 6 * c + 0) by simp (disch := decide) only [up_ne, ly_ne81]) ?_
        refine ax_isn (pc := 36) C dX7_layNow_36 rfl (by omega) (by omega) ?_
        refine ax_aload_0 (pc := 37) C dX7_layNow_37 ?_
        refine ax_getR (pc := 38) C fX7_34 dX7_layNow_38 rfl rfl ?_
        refine ax_iload_1 (pc := 41) C dX7_layNow_41 ?_
        refine ax_aload_0 (pc := 42) C dX7_layNow_42 ?_
        refine ax_iload_1 (pc := 43) C dX7_layNow_43 ?_
        refine ax_iconst (pc := 44) (v := 1) C dX7_layNow_44 (by decide) ?_
        refine ax_callVi (pc := 45) C (w_X7_of F (k := 1) (by omega) (by decide)) kX7_of mX7_201 dX7_layNow_45 (by decide) rfl rfl rfl rfl rfl (Nat.le_of_ble_eq_true rfl) rfl ⟨Nat.le_refl _, Nat.le_refl _⟩ ?_
        refine ax_val C (show _ = σ 81 (8 + 6 * c + 1) by simp (disch := decide) only [up_ne, ly_ne81]) ?_
        refine ax_isn (pc := 48) C dX7_layNow_48 rfl (by omega) (by omega) ?_
        refine ax_aload_0 (pc := 49) C dX7_layNow_49 ?_
        refine ax_getR (pc := 50) C fX7_37 dX7_layNow_50 rfl rfl ?_
        refine ax_iload_1 (pc := 53) C dX7_layNow_53 ?_
        refine ax_aload_0 (pc := 54) C dX7_layNow_54 ?_
        refine ax_iload_1 (pc := 55) C dX7_layNow_55 ?_
        refine ax_iconst (pc := 56) (v := 2) C dX7_layNow_56 (by decide) ?_
        refine ax_callVi (pc := 57) C (w_X7_of F (k := 2) (by omega) (by decide)) kX7_of mX7_201 dX7_layNow_57 (by decide) rfl rfl rfl rfl rfl (Nat.le_of_ble_eq_true rfl) rfl ⟨Nat.le_refl _, Nat.le_refl _⟩ ?_
        refine ax_val C (show _ = σ 81 (8 + 6 * c + 2) by simp (disch := decide) only [up_ne, ly_ne81]) ?_
        refine ax_isn (pc := 60) C dX7_layNow_60 rfl (by omega) (by omega) ?_
        refine ax_aload_0 (pc := 61) C dX7_layNow_61 ?_
        refine ax_getR (pc := 62) C fX7_40 dX7_layNow_62 rfl rfl ?_
        refine ax_iload_1 (pc := 65) C dX7_layNow_65 ?_
        refine ax_aload_0 (pc := 66) C dX7_layNow_66 ?_
        refine ax_iload_1 (pc := 67) C dX7_layNow_67 ?_
        refine ax_iconst (pc := 68) (v := 3) C dX7_layNow_68 (by decide) ?_
        refine ax_callVi (pc := 69) C (w_X7_of F (k := 3) (by omega) (by decide)) kX7_of mX7_201 dX7_layNow_69 (by decide) rfl rfl rfl rfl rfl (Nat.le_of_ble_eq_true rfl) rfl ⟨Nat.le_refl _, Nat.le_refl _⟩ ?_
        refine ax_val C (show _ = σ 81 (8 + 6 * c + 3) by simp (disch := decide) only [up_ne, ly_ne81]) ?_
        refine ax_isn (pc := 72) C dX7_layNow_72 rfl (by omega) (by omega) ?_
        refine ax_aload_0 (pc := 73) C dX7_layNow_73 ?_
        refine ax_getR (pc := 74) C fX7_43 dX7_layNow_74 rfl rfl ?_
        refine ax_iload_1 (pc := 77) C dX7_layNow_77 ?_
        refine ax_aload_0 (pc := 78) C dX7_layNow_78 ?_
        refine ax_iload_1 (pc := 79) C dX7_layNow_79 ?_
        refine ax_iconst (pc := 80) (v := 4) C dX7_layNow_80 (by decide) ?_
        refine ax_callVi (pc := 81) C (w_X7_of F (k := 4) (by omega) (by decide)) kX7_of mX7_201 dX7_layNow_81 (by decide) rfl rfl rfl rfl rfl (Nat.le_of_ble_eq_true rfl) rfl ⟨Nat.le_refl _, Nat.le_refl _⟩ ?_
        refine ax_val C (show _ = σ 81 (8 + 6 * c + 4) by simp (disch := decide) only [up_ne, ly_ne81]) ?_
        refine ax_isn (pc := 84) C dX7_layNow_84 rfl (by omega) (by omega) ?_
        refine ax_aload_0 (pc := 85) C dX7_layNow_85 ?_
        refine ax_getR (pc := 86) C fX7_46 dX7_layNow_86 rfl rfl ?_
        refine ax_iload_1 (pc := 89) C dX7_layNow_89 ?_
        refine ax_aload_0 (pc := 90) C dX7_layNow_90 ?_
        refine ax_iload_1 (pc := 91) C dX7_layNow_91 ?_
        refine ax_iconst (pc := 92) (v := 5) C dX7_layNow_92 (by decide) ?_
        refine ax_callVi (pc := 93) C (w_X7_of F (k := 5) (by omega) (by decide)) kX7_of mX7_201 dX7_layNow_93 (by decide) rfl rfl rfl rfl rfl (Nat.le_of_ble_eq_true rfl) rfl ⟨Nat.le_refl _, Nat.le_refl _⟩ ?_
        refine ax_val C (show _ = σ 81 (8 + 6 * c + 5) by simp (disch := decide) only [up_ne, ly_ne81]) ?_
        refine ax_isn (pc := 96) C dX7_layNow_96 rfl (by omega) (by omega) ?_
        refine ax_iinc_1 (pc := 97) C dX7_layNow_97 (1) (by decide) rfl ?_
        refine ax_goto (pc := 100) (tgt := 17) C dX7_layNow_100 (by decide) ?_
        refine ax_SLeq ly_s (by rw [nI_1]) (ih (c + 1) (by omega) (by omega))
  refine ax_aload_0 (pc := 0) C dX7_layNow_0 ?_
  refine ax_aload_0 (pc := 1) C dX7_layNow_1 ?_
  refine ax_getR (pc := 2) C fX7_19 dX7_layNow_2 rfl rfl ?_
  refine ax_iconst (pc := 5) (v := 0) C dX7_layNow_5 (by decide) ?_
  refine ax_iae (pc := 6) (c := 0) C dX7_layNow_6 rfl rfl (by decide) (by decide) ?_
  refine ax_val C hn ?_
  refine ax_putI (pc := 7) C fX7_195 dX7_layNow_7 rfl rfl rfl rfl ?_
  refine ax_aload_0 (pc := 10) C dX7_layNow_10 ?_
  refine ax_iconst (pc := 11) (v := 0) C dX7_layNow_11 (by decide) ?_
  refine ax_putI (pc := 12) C fX7_198 dX7_layNow_12 rfl rfl rfl rfl ?_
  refine ax_iconst (pc := 15) (v := 0) C dX7_layNow_15 (by decide) ?_
  refine ax_istore_1 (pc := 16) C dX7_layNow_16 rfl ?_
  exact ax_Seq ly_0.symm (loop (n + 1) 0 (by omega) (by omega))

set_option maxRecDepth 20000 in
set_option maxHeartbeats 4000000 in
theorem w_X7_cart {Y : ax_Y} {ad : Nat → Nat} (F : ax_F Y) {l : Launch} {σ : ax_Z} {n : Nat} (hn : σ 81 0 = nI n) (h6 : n ≤ 6) {cart k : Int32} : ax_m Y ad l iX7_cart 2 σ [.ref (ad 77), .int cart, .int k] (some (.int (if (0 ≤ cart ∧ cart ≤ nI n - 1) ∧ (0 ≤ k ∧ k ≤ 5) then (if 5 ≤ k then (if (ly_S (ax_up σ 77 0 0) n n) 89 cart.toNatClampNeg = -1000000 then -1000000 else (ly_S (ax_up σ 77 0 0) n n) 87 cart.toNatClampNeg * ((ly_S (ax_up σ 77 0 0) n n) 89 cart.toNatClampNeg - (ly_S (ax_up σ 77 0 0) n n) 86 cart.toNatClampNeg) + (ly_S (ax_up σ 77 0 0) n n) 90 cart.toNatClampNeg) else (ly_S (ax_up σ 77 0 0) n n) 81 (8 + 6 * cart.toNatClampNeg + (1 + k.toNatClampNeg))) else -1000001))) (if (0 ≤ cart ∧ cart ≤ nI n - 1) ∧ (0 ≤ k ∧ k ≤ 5) then (ly_S (ax_up σ 77 0 0) n n) else (ax_up σ 77 0 0)) := by
  refine ax_m.of F kX7_cart.1 [some (.ref (ad 77)), some (.int (cart)), some (.int (k))] rfl (Nat.le_of_ble_eq_true rfl) (fun x C => ?_)
  refine ax_aload_0 (pc := 0) C dX7_cart_0 ?_
  refine ax_iconst (pc := 1) (v := 0) C dX7_cart_1 (by decide) ?_
  refine ax_putI (pc := 2) C fX7_65 dX7_cart_2 rfl rfl rfl rfl ?_
  refine ax_aload_0 (pc := 5) C dX7_cart_5 ?_
  refine ax_iload_1 (pc := 6) C dX7_cart_6 ?_
  refine ax_callVi (pc := 7) C (w_X7_isCart F (n := n) (by rw [up_ne (by decide)]; exact hn)) kX7_isCart mX7_230 dX7_cart_7 (by decide) rfl rfl rfl rfl rfl (Nat.le_of_ble_eq_true rfl) rfl ⟨Nat.le_refl _, Nat.le_refl _⟩ ?_
  refine ax_if_eq (pc := 10) (tgt := 25) C dX7_cart_10 (by decide) (fun h10 => ?_) (fun h10 => ?_)
  · have h10 := ax_beq h10
    refine ax_ldc (pc := 25) C dX7_cart_25 qX7_85 ?_
    exact ax_ir (pc := 27) C rfl dX7_cart_27 (by first | with_reducible rfl | (simp only [h10, if_true, if_false, true_and, and_true, false_and, and_false, not_false_eq_true, not_true_eq_false]; done) | (simp only [h10, if_true, if_false, true_and, and_true, false_and, and_false, not_false_eq_true, not_true_eq_false]; with_reducible rfl)) (by first | with_reducible rfl | (simp only [h10, if_true, if_false, true_and, and_true, false_and, and_false, not_false_eq_true, not_true_eq_false]; done) | (simp only [h10, if_true, if_false, true_and, and_true, false_and, and_false, not_false_eq_true, not_true_eq_false]; with_reducible rfl))
  · have h10 := ax_bne h10
    refine ax_iload_2 (pc := 13) C dX7_cart_13 ?_
    refine ax_i2l (pc := 14) C dX7_cart_14 ?_
    refine ax_lconst (pc := 15) (v := 0) C dX7_cart_15 (by decide) ?_
    refine ax_ldc2 (pc := 16) C dX7_cart_16 qX7_233 ?_
    refine ax_callSi (pc := 19) C (w_X7_in F (lo := (0)) (hi := (5)) rfl rfl) kX7_in mX7_75 dX7_cart_19 (by decide) rfl rfl (Nat.le_of_ble_eq_true rfl) rfl ⟨Nat.le_refl _, Nat.le_refl _⟩ ?_
    refine ax_if_ne (pc := 22) (tgt := 28) C dX7_cart_22 (by decide) (fun h22 => ?_) (fun h22 => ?_)
    · have h22 := ax_bne h22
      obtain ⟨c, hc, rfl⟩ := ax_ixN (by omega) h10
      have ec : (nI c).toNatClampNeg = c := nI_clamp (by omega)
      obtain ⟨d, hd, rfl⟩ := ax_ix (m := 5) (by decide) h22
      have ed : (nI d).toNatClampNeg = d := nI_clamp (by omega)
      refine ax_aload_0 (pc := 28) C dX7_cart_28 ?_
      refine ax_callVv (pc := 29) C (w_X7_layNow F (n := n) (by rw [up_ne (by decide)]; exact hn) h6) kX7_layNow mX7_227 dX7_cart_29 (by decide) rfl rfl rfl rfl rfl (Nat.le_of_ble_eq_true rfl) rfl ⟨Nat.le_refl _, Nat.le_refl _⟩ ?_
      refine ax_iload_2 (pc := 32) C dX7_cart_32 ?_
      refine ax_iconst (pc := 33) (v := 5) C dX7_cart_33 (by decide) ?_
      refine ax_icmp_ge (pc := 34) (tgt := 48) C dX7_cart_34 (by decide) (fun h34 => ?_) (fun h34 => ?_)
      · refine ax_aload_0 (pc := 48) C dX7_cart_48 ?_
        refine ax_getR (pc := 49) C fX7_43 dX7_cart_49 rfl rfl ?_
        refine ax_iload_1 (pc := 52) C dX7_cart_52 ?_
        refine ax_ian (pc := 53) C dX7_cart_53 rfl (by omega) (by omega) ?_
        refine ax_ldc (pc := 54) C dX7_cart_54 qX7_101 ?_
        refine ax_icmp_ne (pc := 56) (tgt := 64) C dX7_cart_56 (by decide) (fun h56 => ?_) (fun h56 => ?_)
        · refine ax_aload_0 (pc := 64) C dX7_cart_64 ?_
          refine ax_iload_1 (pc := 65) C dX7_cart_65 ?_
          refine ax_callVi (pc := 66) C (w_X7_costOf F (by omega)) kX7_costOf mX7_235 dX7_cart_66 (by decide) rfl rfl rfl rfl rfl (Nat.le_of_ble_eq_true rfl) rfl ⟨Nat.le_refl _, Nat.le_refl _⟩ ?_
          exact ax_ir (pc := 69) C rfl dX7_cart_69 (by first | with_reducible rfl | (simp only [h10, h22, h34, h56, if_true, if_false, true_and, and_true, false_and, and_false, not_false_eq_true, not_true_eq_false, ec, ed]; done) | (simp only [h10, h22, h34, h56, if_true, if_false, true_and, and_true, false_and, and_false, not_false_eq_true, not_true_eq_false, ec, ed]; with_reducible rfl)) (by first | with_reducible rfl | (simp only [h10, h22, h34, h56, if_true, if_false, true_and, and_true, false_and, and_false, not_false_eq_true, not_true_eq_false, ec, ed]; done) | (simp only [h10, h22, h34, h56, if_true, if_false, true_and, and_true, false_and, and_false, not_false_eq_true, not_true_eq_false, ec, ed]; with_reducible rfl))
        · refine ax_ldc (pc := 59) C dX7_cart_59 qX7_101 ?_
          refine ax_goto (pc := 61) (tgt := 69) C dX7_cart_61 (by decide) ?_
          exact ax_ir (pc := 69) C rfl dX7_cart_69 (by first | with_reducible rfl | (simp only [h10, h22, h34, h56, if_true, if_false, true_and, and_true, false_and, and_false, not_false_eq_true, not_true_eq_false, ec, ed]; done) | (simp only [h10, h22, h34, h56, if_true, if_false, true_and, and_true, false_and, and_false, not_false_eq_true, not_true_eq_false, ec, ed]; with_reducible rfl)) (by first | with_reducible rfl | (simp only [h10, h22, h34, h56, if_true, if_false, true_and, and_true, false_and, and_false, not_false_eq_true, not_true_eq_false, ec, ed]; done) | (simp only [h10, h22, h34, h56, if_true, if_false, true_and, and_true, false_and, and_false, not_false_eq_true, not_true_eq_false, ec, ed]; with_reducible rfl))
      · have hd5 : d < 5 := Nat.lt_of_not_le (fun z => h34 (nI_le (a := 5) z (by omega)))
        refine ax_aload_0 (pc := 37) C dX7_cart_37 ?_
        refine ax_iload_1 (pc := 38) C dX7_cart_38 ?_
        refine ax_iconst (pc := 39) (v := 1) C dX7_cart_39 (by decide) ?_
        refine ax_iload_2 (pc := 40) C dX7_cart_40 ?_
        refine ax_iadd (pc := 41) C dX7_cart_41 ?_
        refine ax_val C (show _ = nI (1 + d) by rw [show (1 : Int32) = nI 1 from rfl, nI_add]) ?_
        refine ax_callVi (pc := 42) C (w_X7_of F (k := 1 + d) (by omega) (by omega)) kX7_of mX7_201 dX7_cart_42 (by decide) rfl rfl rfl rfl rfl (Nat.le_of_ble_eq_true rfl) rfl ⟨Nat.le_refl _, Nat.le_refl _⟩ ?_
        refine ax_goto (pc := 45) (tgt := 69) C dX7_cart_45 (by decide) ?_
        exact ax_ir (pc := 69) C rfl dX7_cart_69 (by first | with_reducible rfl | (simp only [h10, h22, h34, if_true, if_false, true_and, and_true, false_and, and_false, not_false_eq_true, not_true_eq_false, ec, ed]; done) | (simp only [h10, h22, h34, if_true, if_false, true_and, and_true, false_and, and_false, not_false_eq_true, not_true_eq_false, ec, ed]; with_reducible rfl)) (by first | with_reducible rfl | (simp only [h10, h22, h34, if_true, if_false, true_and, and_true, false_and, and_false, not_false_eq_true, not_true_eq_false, ec, ed]; done) | (simp only [h10, h22, h34, if_true, if_false, true_and, and_true, false_and, and_false, not_false_eq_true, not_true_eq_false, ec, ed]; with_reducible rfl))
    · have h22 := ax_beq h22
      refine ax_ldc (pc := 25) C dX7_cart_25 qX7_85 ?_
      exact ax_ir (pc := 27) C rfl dX7_cart_27 (by first | with_reducible rfl | (simp only [h10, h22, if_true, if_false, true_and, and_true, false_and, and_false, not_false_eq_true, not_true_eq_false]; done) | (simp only [h10, h22, if_true, if_false, true_and, and_true, false_and, and_false, not_false_eq_true, not_true_eq_false]; with_reducible rfl)) (by first | with_reducible rfl | (simp only [h10, h22, if_true, if_false, true_and, and_true, false_and, and_false, not_false_eq_true, not_true_eq_false]; done) | (simp only [h10, h22, if_true, if_false, true_and, and_true, false_and, and_false, not_false_eq_true, not_true_eq_false]; with_reducible rfl))
