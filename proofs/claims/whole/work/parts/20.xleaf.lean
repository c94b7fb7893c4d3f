set_option maxRecDepth 20000 in
set_option maxHeartbeats 4000000 in
theorem w_X6_isWithin {Y : ax_Y} {ad : Nat → Nat} (F : ax_F Y) {l : Launch} {σ : ax_Z} {v a b : Int32} : ax_m Y ad l iX6_isWithin 0 σ [.int v, .int a, .int b] (some (.int (ax_b (a ≤ v ∧ v ≤ b)))) σ := by
  refine ax_m.of F kX6_isWithin.1 [some (.int v), some (.int a), some (.int b)] rfl (Nat.le_of_ble_eq_true rfl) (fun x C => ?_)
  refine ax_iload_0 (pc := 0) C dX6_isWithin_0 ?_
  refine ax_iload_1 (pc := 1) C dX6_isWithin_1 ?_
  refine ax_icmp_lt (pc := 2) (tgt := 14) C dX6_isWithin_2 (by decide) (fun h2 => ?_) (fun h2 => ?_)
  · refine ax_iconst (pc := 14) (v := 0) C dX6_isWithin_14 (by decide) ?_
    exact ax_zr (pc := 15) C rfl rfl dX6_isWithin_15 (by simp_all [ax_b, ← Int32.not_lt]) rfl
  · refine ax_iload_0 (pc := 5) C dX6_isWithin_5 ?_
    refine ax_iload_2 (pc := 6) C dX6_isWithin_6 ?_
    refine ax_icmp_gt (pc := 7) (tgt := 14) C dX6_isWithin_7 (by decide) (fun h7 => ?_) (fun h7 => ?_)
    · refine ax_iconst (pc := 14) (v := 0) C dX6_isWithin_14 (by decide) ?_
      exact ax_zr (pc := 15) C rfl rfl dX6_isWithin_15 (by simp_all [ax_b, ← Int32.not_lt]) rfl
    · refine ax_iconst (pc := 10) (v := 1) C dX6_isWithin_10 (by decide) ?_
      refine ax_goto (pc := 11) (tgt := 15) C dX6_isWithin_11 (by decide) ?_
      exact ax_zr (pc := 15) C rfl rfl dX6_isWithin_15 (by simp_all [ax_b, ← Int32.not_lt]) rfl

set_option maxRecDepth 20000 in
set_option maxHeartbeats 4000000 in
theorem w_X6_isRow {Y : ax_Y} {ad : Nat → Nat} (F : ax_F Y) {l : Launch} {σ : ax_Z} {v : Int32} : ax_m Y ad l iX6_isRow 1 σ [.int v] (some (.int (ax_b (0 ≤ v ∧ v ≤ 7)))) σ := by
  refine ax_m.of F kX6_isRow.1 [some (.int v)] rfl (Nat.le_of_ble_eq_true rfl) (fun x C => ?_)
  refine ax_iload_0 (pc := 0) C dX6_isRow_0 ?_
  refine ax_iconst (pc := 1) (v := 0) C dX6_isRow_1 (by decide) ?_
  refine ax_bipush (pc := 2) (v := 7) C dX6_isRow_2 (by decide) ?_
  refine ax_callSi (pc := 4) C (w_X6_isWithin F) kX6_isWithin mX6_59 dX6_isRow_4 (by decide) rfl rfl (Nat.le_of_ble_eq_true rfl) rfl ⟨Nat.le_refl _, Nat.le_refl _⟩ ?_
  exact ax_zr (pc := 7) C rfl (by unfold ax_b; split <;> rfl) dX6_isRow_7 rfl rfl

set_option maxRecDepth 20000 in
set_option maxHeartbeats 4000000 in
theorem w_X6_isHour {Y : ax_Y} {ad : Nat → Nat} (F : ax_F Y) {l : Launch} {σ : ax_Z} {v : Int32} : ax_m Y ad l iX6_isHour 1 σ [.int v] (some (.int (ax_b (0 ≤ v ∧ v ≤ 11)))) σ := by
  refine ax_m.of F kX6_isHour.1 [some (.int v)] rfl (Nat.le_of_ble_eq_true rfl) (fun x C => ?_)
  refine ax_iload_0 (pc := 0) C dX6_isHour_0 ?_
  refine ax_iconst (pc := 1) (v := 0) C dX6_isHour_1 (by decide) ?_
  refine ax_bipush (pc := 2) (v := 11) C dX6_isHour_2 (by decide) ?_
  refine ax_callSi (pc := 4) C (w_X6_isWithin F) kX6_isWithin mX6_59 dX6_isHour_4 (by decide) rfl rfl (Nat.le_of_ble_eq_true rfl) rfl ⟨Nat.le_refl _, Nat.le_refl _⟩ ?_
  exact ax_zr (pc := 7) C rfl (by unfold ax_b; split <;> rfl) dX6_isHour_7 rfl rfl

set_option maxRecDepth 20000 in
set_option maxHeartbeats 4000000 in
theorem w_X6_isCart {Y : ax_Y} {ad : Nat → Nat} (F : ax_F Y) {l : Launch} {σ : ax_Z} {v : Int32} : ax_m Y ad l iX6_isCart 1 σ [.ref (ad 0), .int v] (some (.int (ax_b (0 ≤ v ∧ v ≤ σ 14 10 - 1)))) σ := by
  refine ax_m.of F kX6_isCart.1 [some (.ref (ad 0)), some (.int v)] rfl (Nat.le_of_ble_eq_true rfl) (fun x C => ?_)
  refine ax_iload_1 (pc := 0) C dX6_isCart_0 ?_
  refine ax_iconst (pc := 1) (v := 0) C dX6_isCart_1 (by decide) ?_
  refine ax_aload_0 (pc := 2) C dX6_isCart_2 ?_
  refine ax_getR (pc := 3) C fX6_25 dX6_isCart_3 rfl rfl ?_
  refine ax_getI (pc := 6) C fX6_129 dX6_isCart_6 rfl rfl ?_
  refine ax_iconst (pc := 9) (v := 1) C dX6_isCart_9 (by decide) ?_
  refine ax_isub (pc := 10) C dX6_isCart_10 ?_
  refine ax_callSi (pc := 11) C (w_X6_isWithin F) kX6_isWithin mX6_59 dX6_isCart_11 (by decide) rfl rfl (Nat.le_of_ble_eq_true rfl) rfl ⟨Nat.le_refl _, Nat.le_refl _⟩ ?_
  exact ax_zr (pc := 14) C rfl (by unfold ax_b; split <;> rfl) dX6_isCart_14 rfl rfl

set_option maxRecDepth 20000 in
set_option maxHeartbeats 4000000 in
theorem w_X6_found {Y : ax_Y} {ad : Nat → Nat} (F : ax_F Y) {l : Launch} {σ : ax_Z} {v : Int32} : ax_m Y ad l iX6_found 0 σ [.ref (ad 0), .int v] (some (.int (-1000010 - v))) (ax_up σ 0 8 v) := by
  refine ax_m.of F kX6_found.1 [some (.ref (ad 0)), some (.int v)] rfl (Nat.le_of_ble_eq_true rfl) (fun x C => ?_)
  refine ax_aload_0 (pc := 0) C dX6_found_0 ?_
  refine ax_iload_1 (pc := 1) C dX6_found_1 ?_
  refine ax_putI (pc := 2) C fX6_72 dX6_found_2 rfl rfl rfl rfl ?_
  refine ax_ldc (pc := 5) C dX6_found_5 qX6_253 ?_
  refine ax_iload_1 (pc := 7) C dX6_found_7 ?_
  refine ax_isub (pc := 8) C dX6_found_8 ?_
  exact ax_ir (pc := 9) C rfl dX6_found_9 rfl rfl

set_option maxRecDepth 20000 in
set_option maxHeartbeats 4000000 in
theorem w_X6_fault {Y : ax_Y} {ad : Nat → Nat} (F : ax_F Y) {l : Launch} {σ : ax_Z} : ax_m Y ad l iX6_fault 0 σ [.ref (ad 0)] (some (.int (σ 0 7))) σ := by
  refine ax_m.of F kX6_fault.1 [some (.ref (ad 0))] rfl (Nat.le_of_ble_eq_true rfl) (fun x C => ?_)
  refine ax_aload_0 (pc := 0) C dX6_fault_0 ?_
  refine ax_getI (pc := 1) C fX6_116 dX6_fault_1 rfl rfl ?_
  exact ax_ir (pc := 4) C rfl dX6_fault_4 rfl rfl

set_option maxRecDepth 20000 in
set_option maxHeartbeats 4000000 in
theorem w_X6_status {Y : ax_Y} {ad : Nat → Nat} (F : ax_F Y) {l : Launch} {σ : ax_Z} : ax_m Y ad l iX6_status 0 σ [.ref (ad 0)] (some (.int (σ 0 8))) σ := by
  refine ax_m.of F kX6_status.1 [some (.ref (ad 0))] rfl (Nat.le_of_ble_eq_true rfl) (fun x C => ?_)
  refine ax_aload_0 (pc := 0) C dX6_status_0 ?_
  refine ax_getI (pc := 1) C fX6_72 dX6_status_1 rfl rfl ?_
  exact ax_ir (pc := 4) C rfl dX6_status_4 rfl rfl

set_option maxRecDepth 20000 in
set_option maxHeartbeats 4000000 in
theorem w_X5_hasPlaces {Y : ax_Y} {ad : Nat → Nat} (F : ax_F Y) {l : Launch} {σ : ax_Z} {c : Nat} (hc : c < 8) {a n : Int32} : ax_m Y ad l iX5_hasPlaces 0 σ [.ref (ad (41 + 2 * c)), .int a, .int n] (some (.int (ax_b (0 ≤ a ∧ 0 ≤ n ∧ a ≤ σ (41 + 2 * c) 3 ∧ n ≤ σ (41 + 2 * c) 3 - a)))) σ := by
  refine ax_m.of F kX5_hasPlaces.1 [some (.ref (ad (41 + 2 * c))), some (.int a), some (.int n)] rfl (Nat.le_of_ble_eq_true rfl) (fun x C => ?_)
  refine ax_iload_1 (pc := 0) C dX5_hasPlaces_0 ?_
  refine ax_if_lt (pc := 1) (tgt := 30) C dX5_hasPlaces_1 (by decide) (fun h1 => ?_) (fun h1 => ?_)
  · refine ax_iconst (pc := 30) (v := 0) C dX5_hasPlaces_30 (by decide) ?_
    exact ax_zr (pc := 31) C rfl rfl dX5_hasPlaces_31 (by simp_all [ax_b, ← Int32.not_lt]) rfl
  · refine ax_iload_2 (pc := 4) C dX5_hasPlaces_4 ?_
    refine ax_if_lt (pc := 5) (tgt := 30) C dX5_hasPlaces_5 (by decide) (fun h5 => ?_) (fun h5 => ?_)
    · refine ax_iconst (pc := 30) (v := 0) C dX5_hasPlaces_30 (by decide) ?_
      exact ax_zr (pc := 31) C rfl rfl dX5_hasPlaces_31 (by simp_all [ax_b, ← Int32.not_lt]) rfl
    · refine ax_iload_1 (pc := 8) C dX5_hasPlaces_8 ?_
      refine ax_aload_0 (pc := 9) C dX5_hasPlaces_9 ?_
      refine ax_getI (pc := 10) C fX5_29 dX5_hasPlaces_10 (ax_rowO hc) rfl ?_
      refine ax_icmp_gt (pc := 13) (tgt := 30) C dX5_hasPlaces_13 (by decide) (fun h13 => ?_) (fun h13 => ?_)
      · refine ax_iconst (pc := 30) (v := 0) C dX5_hasPlaces_30 (by decide) ?_
        exact ax_zr (pc := 31) C rfl rfl dX5_hasPlaces_31 (by simp_all [ax_b, ← Int32.not_lt]) rfl
      · refine ax_iload_2 (pc := 16) C dX5_hasPlaces_16 ?_
        refine ax_aload_0 (pc := 17) C dX5_hasPlaces_17 ?_
        refine ax_getI (pc := 18) C fX5_29 dX5_hasPlaces_18 (ax_rowO hc) rfl ?_
        refine ax_iload_1 (pc := 21) C dX5_hasPlaces_21 ?_
        refine ax_isub (pc := 22) C dX5_hasPlaces_22 ?_
        refine ax_icmp_gt (pc := 23) (tgt := 30) C dX5_hasPlaces_23 (by decide) (fun h23 => ?_) (fun h23 => ?_)
        · refine ax_iconst (pc := 30) (v := 0) C dX5_hasPlaces_30 (by decide) ?_
          exact ax_zr (pc := 31) C rfl rfl dX5_hasPlaces_31 (by simp_all [ax_b, ← Int32.not_lt]) rfl
        · refine ax_iconst (pc := 26) (v := 1) C dX5_hasPlaces_26 (by decide) ?_
          refine ax_goto (pc := 27) (tgt := 31) C dX5_hasPlaces_27 (by decide) ?_
          exact ax_zr (pc := 31) C rfl rfl dX5_hasPlaces_31 (by simp_all [ax_b, ← Int32.not_lt]) rfl

set_option maxRecDepth 20000 in
set_option maxHeartbeats 4000000 in
theorem w_X5_lowestBits {Y : ax_Y} {ad : Nat → Nat} (F : ax_F Y) {l : Launch} {σ : ax_Z} {c : Nat} (hc : c < 8) {v : Int32} : ax_m Y ad l iX5_lowestBits 0 σ [.ref (ad (41 + 2 * c)), .int v] (some (.int (if σ (41 + 2 * c) 2 = 0 then v.toInt8.toInt32 else if σ (41 + 2 * c) 2 = 1 then v.toInt16.toInt32 else v))) σ := by
  refine ax_m.of F kX5_lowestBits.1 [some (.ref (ad (41 + 2 * c))), some (.int v)] rfl (Nat.le_of_ble_eq_true rfl) (fun x C => ?_)
  refine ax_aload_0 (pc := 0) C dX5_lowestBits_0 ?_
  refine ax_getI (pc := 1) C fX5_25 dX5_lowestBits_1 (ax_rowO hc) rfl ?_
  refine ax_if_ne (pc := 4) (tgt := 10) C dX5_lowestBits_4 (by decide) (fun h4 => ?_) (fun h4 => ?_)
  · refine ax_aload_0 (pc := 10) C dX5_lowestBits_10 ?_
    refine ax_getI (pc := 11) C fX5_25 dX5_lowestBits_11 (ax_rowO hc) rfl ?_
    refine ax_iconst (pc := 14) (v := 1) C dX5_lowestBits_14 (by decide) ?_
    refine ax_icmp_ne (pc := 15) (tgt := 23) C dX5_lowestBits_15 (by decide) (fun h15 => ?_) (fun h15 => ?_)
    · refine ax_iload_1 (pc := 23) C dX5_lowestBits_23 ?_
      exact ax_ir (pc := 24) C rfl dX5_lowestBits_24 (by simp_all) rfl
    · refine ax_iload_1 (pc := 18) C dX5_lowestBits_18 ?_
      refine ax_i2s (pc := 19) C dX5_lowestBits_19 ?_
      refine ax_goto (pc := 20) (tgt := 24) C dX5_lowestBits_20 (by decide) ?_
      exact ax_ir (pc := 24) C rfl dX5_lowestBits_24 (by simp_all) rfl
  · refine ax_iload_1 (pc := 7) C dX5_lowestBits_7 ?_
    refine ax_i2b (pc := 8) C dX5_lowestBits_8 ?_
    exact ax_ir (pc := 9) C rfl dX5_lowestBits_9 (by simp_all) rfl

set_option maxRecDepth 20000 in
set_option maxHeartbeats 4000000 in
theorem w_X3_costOf {Y : ax_Y} {ad : Nat → Nat} (F : ax_F Y) {l : Launch} {σ : ax_Z} {p c : Nat} (hp : ax_isP p) (hc : c < 7) : ax_m Y ad l iX3_costOf 0 σ [.ref (ad p), .int (nI c)] (some (.int (if σ (p + 6) c = -1000000 then -1000000 else σ (p + 4) c * (σ (p + 6) c - σ (p + 3) c) + σ (p + 7) c))) σ := by
  refine ax_m.of F kX3_costOf.1 [some (.ref (ad p)), some (.int (nI c))] rfl (Nat.le_of_ble_eq_true rfl) (fun x C => ?_)
  refine ax_aload_0 (pc := 0) C dX3_costOf_0 ?_
  refine ax_getR (pc := 1) C fX3_27 dX3_costOf_1 hp.o rfl ?_
  refine ax_iload_1 (pc := 4) C dX3_costOf_4 ?_
  refine ax_ian (pc := 5) C dX3_costOf_5 hp.a6 (by omega) (by decide) ?_
  refine ax_ldc (pc := 6) C dX3_costOf_6 qX3_66 ?_
  refine ax_icmp_ne (pc := 8) (tgt := 16) C dX3_costOf_8 (by decide) (fun h8 => ?_) (fun h8 => ?_)
  · refine ax_aload_0 (pc := 16) C dX3_costOf_16 ?_
    refine ax_getR (pc := 17) C fX3_21 dX3_costOf_17 hp.o rfl ?_
    refine ax_iload_1 (pc := 20) C dX3_costOf_20 ?_
    refine ax_ian (pc := 21) C dX3_costOf_21 hp.a4 (by omega) (by decide) ?_
    refine ax_aload_0 (pc := 22) C dX3_costOf_22 ?_
    refine ax_getR (pc := 23) C fX3_27 dX3_costOf_23 hp.o rfl ?_
    refine ax_iload_1 (pc := 26) C dX3_costOf_26 ?_
    refine ax_ian (pc := 27) C dX3_costOf_27 hp.a6 (by omega) (by decide) ?_
    refine ax_aload_0 (pc := 28) C dX3_costOf_28 ?_
    refine ax_getR (pc := 29) C fX3_18 dX3_costOf_29 hp.o rfl ?_
    refine ax_iload_1 (pc := 32) C dX3_costOf_32 ?_
    refine ax_ian (pc := 33) C dX3_costOf_33 hp.a3 (by omega) (by decide) ?_
    refine ax_isub (pc := 34) C dX3_costOf_34 ?_
    refine ax_imul (pc := 35) C dX3_costOf_35 ?_
    refine ax_aload_0 (pc := 36) C dX3_costOf_36 ?_
    refine ax_getR (pc := 37) C fX3_30 dX3_costOf_37 hp.o rfl ?_
    refine ax_iload_1 (pc := 40) C dX3_costOf_40 ?_
    refine ax_ian (pc := 41) C dX3_costOf_41 hp.a7 (by omega) (by decide) ?_
    refine ax_iadd (pc := 42) C dX3_costOf_42 ?_
    exact ax_ir (pc := 43) C rfl dX3_costOf_43 (by simp_all) rfl
  · refine ax_ldc (pc := 11) C dX3_costOf_11 qX3_66 ?_
    refine ax_goto (pc := 13) (tgt := 43) C dX3_costOf_13 (by decide) ?_
    exact ax_ir (pc := 43) C rfl dX3_costOf_43 (by simp_all) rfl
