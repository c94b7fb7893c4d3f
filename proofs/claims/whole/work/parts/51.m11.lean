set_option maxRecDepth 20000 in
set_option maxHeartbeats 4000000 in
theorem w_X7_ask_s_1 {Y : ax_Y} {ad : Nat → Nat} (F : ax_F Y) {l : Launch} {σ : ax_Z} {n : Nat} (hn : σ 81 0 = nI n) (h6 : n ≤ 6) {c : Nat} (hc : c < n) (hk : σ 81 (8 + 6 * c + 0) = 1) : ax_m Y ad l iX7_ask 5 σ [.ref (ad 77), .int (nI c), .int 0] (some (.int (σ 81 (8 + 6 * c + 2) + (nI c + σ 81 (8 + 6 * c + 1))))) (mp_c (ax_up (ax_up σ 77 0 0) 77 34 0) 0 [11, 10, 21, 20]) := by
  have hcq : 0 ≤ nI c ∧ nI c ≤ nI n - 1 := ⟨nI_pos' (by omega), by rw [show (1 : Int32) = nI 1 from rfl, pk_sub (by omega)]; exact nI_le (by omega) (by omega)⟩
  refine ax_m.of F kX7_ask.1 [some (.ref (ad 77)), some (.int (nI c)), some (.int (0))] rfl (Nat.le_of_ble_eq_true rfl) (fun x C => ?_)
  refine ax_aload_0 (pc := 0) C dX7_ask_0 ?_
  refine ax_iconst (pc := 1) (v := 0) C dX7_ask_1 (by decide) ?_
  refine ax_putI (pc := 2) C fX7_65 dX7_ask_2 rfl rfl rfl rfl ?_
  refine ax_aload_0 (pc := 5) C dX7_ask_5 ?_
  refine ax_iload_1 (pc := 6) C dX7_ask_6 ?_
  refine ax_callVi (pc := 7) C (w_X7_isCart F (n := n) (by rw [up_ne (by decide)]; exact hn)) kX7_isCart mX7_230 dX7_ask_7 (by decide) rfl rfl rfl rfl rfl (Nat.le_of_ble_eq_true rfl) rfl ⟨Nat.le_refl _, Nat.le_refl _⟩ ?_
  refine ax_if_eq (pc := 10) (tgt := 23) C dX7_ask_10 (by decide) (fun h10 => ?_) (fun h10 => ?_)
  · have h10 := ax_beq h10
    exact absurd hcq h10
  · have h10 := ax_bne h10
    refine ax_iload_2 (pc := 13) C dX7_ask_13 ?_
    refine ax_i2l (pc := 14) C dX7_ask_14 ?_
    refine ax_lconst (pc := 15) (v := 0) C dX7_ask_15 (by decide) ?_
    refine ax_lconst (pc := 16) (v := 1) C dX7_ask_16 (by decide) ?_
    refine ax_callSi (pc := 17) C (w_X7_in F (lo := (0)) (hi := (1)) rfl rfl) kX7_in mX7_75 dX7_ask_17 (by decide) rfl rfl (Nat.le_of_ble_eq_true rfl) rfl ⟨Nat.le_refl _, Nat.le_refl _⟩ ?_
    refine ax_if_ne (pc := 20) (tgt := 26) C dX7_ask_20 (by decide) (fun h20 => ?_) (fun h20 => ?_)
    · have h20 := ax_bne h20
      refine ax_aload_0 (pc := 26) C dX7_ask_26 ?_
      refine ax_iconst (pc := 27) (v := 0) C dX7_ask_27 (by decide) ?_
      refine ax_putI (pc := 28) C fX7_269 dX7_ask_28 rfl rfl rfl rfl ?_
      refine ax_iload_2 (pc := 31) C dX7_ask_31 ?_
      refine ax_if_ne (pc := 32) (tgt := 43) C dX7_ask_32 (by decide) (fun z => False.elim (absurd z (by decide))) (fun _ => ?_)
      refine ax_aload_0 (pc := 35) C dX7_ask_35 ?_
      refine ax_iload_1 (pc := 36) C dX7_ask_36 ?_
      refine ax_callVi (pc := 37) C (w_X7_sizeOf_1 F (t := 0) (by omega) (by exact up_s) (by omega) (by simp (disch := decide) only [up_ne]; exact hk)) kX7_sizeOf mX7_284 dX7_ask_37 (by decide) rfl rfl rfl rfl rfl (Nat.le_of_ble_eq_true rfl) rfl ⟨Nat.le_refl _, Nat.le_refl _⟩ ?_
      refine ax_goto (pc := 40) (tgt := 48) C dX7_ask_40 (by decide) ?_
      exact ax_ir (pc := 48) C rfl dX7_ask_48 (by simp (disch := decide) only [up_ne]) rfl
    · have h20 := ax_beq h20
      exact absurd (by decide) h20

set_option maxRecDepth 20000 in
set_option maxHeartbeats 4000000 in
theorem w_X7_ask_s_2 {Y : ax_Y} {ad : Nat → Nat} (F : ax_F Y) {l : Launch} {σ : ax_Z} {n : Nat} (hn : σ 81 0 = nI n) (h6 : n ≤ 6) {c : Nat} (hc : c < n) (hk : σ 81 (8 + 6 * c + 0) = 2) : ax_m Y ad l iX7_ask 5 σ [.ref (ad 77), .int (nI c), .int 0] (some (.int (-(σ 81 (8 + 6 * c + 2) + (2 * (nI c + σ 81 (8 + 6 * c + 1))))))) (mp_c (ax_up (ax_up σ 77 0 0) 77 34 0) 0 [12, 11, 10, 24, 21, 20]) := by
  have hcq : 0 ≤ nI c ∧ nI c ≤ nI n - 1 := ⟨nI_pos' (by omega), by rw [show (1 : Int32) = nI 1 from rfl, pk_sub (by omega)]; exact nI_le (by omega) (by omega)⟩
  refine ax_m.of F kX7_ask.1 [some (.ref (ad 77)), some (.int (nI c)), some (.int (0))] rfl (Nat.le_of_ble_eq_true rfl) (fun x C => ?_)
  refine ax_aload_0 (pc := 0) C dX7_ask_0 ?_
  refine ax_iconst (pc := 1) (v := 0) C dX7_ask_1 (by decide) ?_
  refine ax_putI (pc := 2) C fX7_65 dX7_ask_2 rfl rfl rfl rfl ?_
  refine ax_aload_0 (pc := 5) C dX7_ask_5 ?_
  refine ax_iload_1 (pc := 6) C dX7_ask_6 ?_
  refine ax_callVi (pc := 7) C (w_X7_isCart F (n := n) (by rw [up_ne (by decide)]; exact hn)) kX7_isCart mX7_230 dX7_ask_7 (by decide) rfl rfl rfl rfl rfl (Nat.le_of_ble_eq_true rfl) rfl ⟨Nat.le_refl _, Nat.le_refl _⟩ ?_
  refine ax_if_eq (pc := 10) (tgt := 23) C dX7_ask_10 (by decide) (fun h10 => ?_) (fun h10 => ?_)
  · have h10 := ax_beq h10
    exact absurd hcq h10
  · have h10 := ax_bne h10
    refine ax_iload_2 (pc := 13) C dX7_ask_13 ?_
    refine ax_i2l (pc := 14) C dX7_ask_14 ?_
    refine ax_lconst (pc := 15) (v := 0) C dX7_ask_15 (by decide) ?_
    refine ax_lconst (pc := 16) (v := 1) C dX7_ask_16 (by decide) ?_
    refine ax_callSi (pc := 17) C (w_X7_in F (lo := (0)) (hi := (1)) rfl rfl) kX7_in mX7_75 dX7_ask_17 (by decide) rfl rfl (Nat.le_of_ble_eq_true rfl) rfl ⟨Nat.le_refl _, Nat.le_refl _⟩ ?_
    refine ax_if_ne (pc := 20) (tgt := 26) C dX7_ask_20 (by decide) (fun h20 => ?_) (fun h20 => ?_)
    · have h20 := ax_bne h20
      refine ax_aload_0 (pc := 26) C dX7_ask_26 ?_
      refine ax_iconst (pc := 27) (v := 0) C dX7_ask_27 (by decide) ?_
      refine ax_putI (pc := 28) C fX7_269 dX7_ask_28 rfl rfl rfl rfl ?_
      refine ax_iload_2 (pc := 31) C dX7_ask_31 ?_
      refine ax_if_ne (pc := 32) (tgt := 43) C dX7_ask_32 (by decide) (fun z => False.elim (absurd z (by decide))) (fun _ => ?_)
      refine ax_aload_0 (pc := 35) C dX7_ask_35 ?_
      refine ax_iload_1 (pc := 36) C dX7_ask_36 ?_
      refine ax_callVi (pc := 37) C (w_X7_sizeOf_2 F (t := 0) (by omega) (by exact up_s) (by omega) (by simp (disch := decide) only [up_ne]; exact hk)) kX7_sizeOf mX7_284 dX7_ask_37 (by decide) rfl rfl rfl rfl rfl (Nat.le_of_ble_eq_true rfl) rfl ⟨Nat.le_refl _, Nat.le_refl _⟩ ?_
      refine ax_goto (pc := 40) (tgt := 48) C dX7_ask_40 (by decide) ?_
      exact ax_ir (pc := 48) C rfl dX7_ask_48 (by simp (disch := decide) only [up_ne]) rfl
    · have h20 := ax_beq h20
      exact absurd (by decide) h20

set_option maxRecDepth 20000 in
set_option maxHeartbeats 4000000 in
theorem w_X7_ask_s_3 {Y : ax_Y} {ad : Nat → Nat} (F : ax_F Y) {l : Launch} {σ : ax_Z} {n : Nat} (hn : σ 81 0 = nI n) (h6 : n ≤ 6) {c : Nat} (hc : c < n) (hk : σ 81 (8 + 6 * c + 0) = 3) : ax_m Y ad l iX7_ask 5 σ [.ref (ad 77), .int (nI c), .int 0] (some (.int (σ 81 (8 + 6 * c + 2) + (nI c + σ 81 (8 + 6 * c + 1) - 1000)))) (mp_c (ax_up (ax_up σ 77 0 0) 77 34 0) 0 [11, 10, 22, 21, 20]) := by
  have hcq : 0 ≤ nI c ∧ nI c ≤ nI n - 1 := ⟨nI_pos' (by omega), by rw [show (1 : Int32) = nI 1 from rfl, pk_sub (by omega)]; exact nI_le (by omega) (by omega)⟩
  refine ax_m.of F kX7_ask.1 [some (.ref (ad 77)), some (.int (nI c)), some (.int (0))] rfl (Nat.le_of_ble_eq_true rfl) (fun x C => ?_)
  refine ax_aload_0 (pc := 0) C dX7_ask_0 ?_
  refine ax_iconst (pc := 1) (v := 0) C dX7_ask_1 (by decide) ?_
  refine ax_putI (pc := 2) C fX7_65 dX7_ask_2 rfl rfl rfl rfl ?_
  refine ax_aload_0 (pc := 5) C dX7_ask_5 ?_
  refine ax_iload_1 (pc := 6) C dX7_ask_6 ?_
  refine ax_callVi (pc := 7) C (w_X7_isCart F (n := n) (by rw [up_ne (by decide)]; exact hn)) kX7_isCart mX7_230 dX7_ask_7 (by decide) rfl rfl rfl rfl rfl (Nat.le_of_ble_eq_true rfl) rfl ⟨Nat.le_refl _, Nat.le_refl _⟩ ?_
  refine ax_if_eq (pc := 10) (tgt := 23) C dX7_ask_10 (by decide) (fun h10 => ?_) (fun h10 => ?_)
  · have h10 := ax_beq h10
    exact absurd hcq h10
  · have h10 := ax_bne h10
    refine ax_iload_2 (pc := 13) C dX7_ask_13 ?_
    refine ax_i2l (pc := 14) C dX7_ask_14 ?_
    refine ax_lconst (pc := 15) (v := 0) C dX7_ask_15 (by decide) ?_
    refine ax_lconst (pc := 16) (v := 1) C dX7_ask_16 (by decide) ?_
    refine ax_callSi (pc := 17) C (w_X7_in F (lo := (0)) (hi := (1)) rfl rfl) kX7_in mX7_75 dX7_ask_17 (by decide) rfl rfl (Nat.le_of_ble_eq_true rfl) rfl ⟨Nat.le_refl _, Nat.le_refl _⟩ ?_
    refine ax_if_ne (pc := 20) (tgt := 26) C dX7_ask_20 (by decide) (fun h20 => ?_) (fun h20 => ?_)
    · have h20 := ax_bne h20
      refine ax_aload_0 (pc := 26) C dX7_ask_26 ?_
      refine ax_iconst (pc := 27) (v := 0) C dX7_ask_27 (by decide) ?_
      refine ax_putI (pc := 28) C fX7_269 dX7_ask_28 rfl rfl rfl rfl ?_
      refine ax_iload_2 (pc := 31) C dX7_ask_31 ?_
      refine ax_if_ne (pc := 32) (tgt := 43) C dX7_ask_32 (by decide) (fun z => False.elim (absurd z (by decide))) (fun _ => ?_)
      refine ax_aload_0 (pc := 35) C dX7_ask_35 ?_
      refine ax_iload_1 (pc := 36) C dX7_ask_36 ?_
      refine ax_callVi (pc := 37) C (w_X7_sizeOf_3 F (t := 0) (by omega) (by exact up_s) (by omega) (by simp (disch := decide) only [up_ne]; exact hk)) kX7_sizeOf mX7_284 dX7_ask_37 (by decide) rfl rfl rfl rfl rfl (Nat.le_of_ble_eq_true rfl) rfl ⟨Nat.le_refl _, Nat.le_refl _⟩ ?_
      refine ax_goto (pc := 40) (tgt := 48) C dX7_ask_40 (by decide) ?_
      exact ax_ir (pc := 48) C rfl dX7_ask_48 (by simp (disch := decide) only [up_ne]) rfl
    · have h20 := ax_beq h20
      exact absurd (by decide) h20

set_option maxRecDepth 20000 in
set_option maxHeartbeats 4000000 in
theorem w_X7_ask_s_4 {Y : ax_Y} {ad : Nat → Nat} (F : ax_F Y) {l : Launch} {σ : ax_Z} {n : Nat} (hn : σ 81 0 = nI n) (h6 : n ≤ 6) {c : Nat} (hc : c < n) (hk : σ 81 (8 + 6 * c + 0) = 4) : ax_m Y ad l iX7_ask 5 σ [.ref (ad 77), .int (nI c), .int 0] (some (.int (σ 81 (8 + 6 * c + 2) - 100))) (mp_c (ax_up (ax_up σ 77 0 0) 77 34 0) 0 [13, 10]) := by
  have hcq : 0 ≤ nI c ∧ nI c ≤ nI n - 1 := ⟨nI_pos' (by omega), by rw [show (1 : Int32) = nI 1 from rfl, pk_sub (by omega)]; exact nI_le (by omega) (by omega)⟩
  refine ax_m.of F kX7_ask.1 [some (.ref (ad 77)), some (.int (nI c)), some (.int (0))] rfl (Nat.le_of_ble_eq_true rfl) (fun x C => ?_)
  refine ax_aload_0 (pc := 0) C dX7_ask_0 ?_
  refine ax_iconst (pc := 1) (v := 0) C dX7_ask_1 (by decide) ?_
  refine ax_putI (pc := 2) C fX7_65 dX7_ask_2 rfl rfl rfl rfl ?_
  refine ax_aload_0 (pc := 5) C dX7_ask_5 ?_
  refine ax_iload_1 (pc := 6) C dX7_ask_6 ?_
  refine ax_callVi (pc := 7) C (w_X7_isCart F (n := n) (by rw [up_ne (by decide)]; exact hn)) kX7_isCart mX7_230 dX7_ask_7 (by decide) rfl rfl rfl rfl rfl (Nat.le_of_ble_eq_true rfl) rfl ⟨Nat.le_refl _, Nat.le_refl _⟩ ?_
  refine ax_if_eq (pc := 10) (tgt := 23) C dX7_ask_10 (by decide) (fun h10 => ?_) (fun h10 => ?_)
  · have h10 := ax_beq h10
    exact absurd hcq h10
  · have h10 := ax_bne h10
    refine ax_iload_2 (pc := 13) C dX7_ask_13 ?_
    refine ax_i2l (pc := 14) C dX7_ask_14 ?_
    refine ax_lconst (pc := 15) (v := 0) C dX7_ask_15 (by decide) ?_
    refine ax_lconst (pc := 16) (v := 1) C dX7_ask_16 (by decide) ?_
    refine ax_callSi (pc := 17) C (w_X7_in F (lo := (0)) (hi := (1)) rfl rfl) kX7_in mX7_75 dX7_ask_17 (by decide) rfl rfl (Nat.le_of_ble_eq_true rfl) rfl ⟨Nat.le_refl _, Nat.le_refl _⟩ ?_
    refine ax_if_ne (pc := 20) (tgt := 26) C dX7_ask_20 (by decide) (fun h20 => ?_) (fun h20 => ?_)
    · have h20 := ax_bne h20
      refine ax_aload_0 (pc := 26) C dX7_ask_26 ?_
      refine ax_iconst (pc := 27) (v := 0) C dX7_ask_27 (by decide) ?_
      refine ax_putI (pc := 28) C fX7_269 dX7_ask_28 rfl rfl rfl rfl ?_
      refine ax_iload_2 (pc := 31) C dX7_ask_31 ?_
      refine ax_if_ne (pc := 32) (tgt := 43) C dX7_ask_32 (by decide) (fun z => False.elim (absurd z (by decide))) (fun _ => ?_)
      refine ax_aload_0 (pc := 35) C dX7_ask_35 ?_
      refine ax_iload_1 (pc := 36) C dX7_ask_36 ?_
      refine ax_callVi (pc := 37) C (w_X7_sizeOf_4 F (t := 0) (by omega) (by exact up_s) (by omega) (by simp (disch := decide) only [up_ne]; exact hk)) kX7_sizeOf mX7_284 dX7_ask_37 (by decide) rfl rfl rfl rfl rfl (Nat.le_of_ble_eq_true rfl) rfl ⟨Nat.le_refl _, Nat.le_refl _⟩ ?_
      refine ax_goto (pc := 40) (tgt := 48) C dX7_ask_40 (by decide) ?_
      exact ax_ir (pc := 48) C rfl dX7_ask_48 (by simp (disch := decide) only [up_ne]) rfl
    · have h20 := ax_beq h20
      exact absurd (by decide) h20

set_option maxRecDepth 20000 in
set_option maxHeartbeats 4000000 in
theorem w_X7_ask_s_5 {Y : ax_Y} {ad : Nat → Nat} (F : ax_F Y) {l : Launch} {σ : ax_Z} {n : Nat} (hn : σ 81 0 = nI n) (h6 : n ≤ 6) {c : Nat} (hc : c < n) (hk : σ 81 (8 + 6 * c + 0) = 5) : ax_m Y ad l iX7_ask 5 σ [.ref (ad 77), .int (nI c), .int 0] (some (.int (2 * (σ 81 (8 + 6 * c + 2) - 100)))) (mp_c (ax_up (ax_up σ 77 0 0) 77 34 0) 0 [14, 13, 10]) := by
  have hcq : 0 ≤ nI c ∧ nI c ≤ nI n - 1 := ⟨nI_pos' (by omega), by rw [show (1 : Int32) = nI 1 from rfl, pk_sub (by omega)]; exact nI_le (by omega) (by omega)⟩
  refine ax_m.of F kX7_ask.1 [some (.ref (ad 77)), some (.int (nI c)), some (.int (0))] rfl (Nat.le_of_ble_eq_true rfl) (fun x C => ?_)
  refine ax_aload_0 (pc := 0) C dX7_ask_0 ?_
  refine ax_iconst (pc := 1) (v := 0) C dX7_ask_1 (by decide) ?_
  refine ax_putI (pc := 2) C fX7_65 dX7_ask_2 rfl rfl rfl rfl ?_
  refine ax_aload_0 (pc := 5) C dX7_ask_5 ?_
  refine ax_iload_1 (pc := 6) C dX7_ask_6 ?_
  refine ax_callVi (pc := 7) C (w_X7_isCart F (n := n) (by rw [up_ne (by decide)]; exact hn)) kX7_isCart mX7_230 dX7_ask_7 (by decide) rfl rfl rfl rfl rfl (Nat.le_of_ble_eq_true rfl) rfl ⟨Nat.le_refl _, Nat.le_refl _⟩ ?_
  refine ax_if_eq (pc := 10) (tgt := 23) C dX7_ask_10 (by decide) (fun h10 => ?_) (fun h10 => ?_)
  · have h10 := ax_beq h10
    exact absurd hcq h10
  · have h10 := ax_bne h10
    refine ax_iload_2 (pc := 13) C dX7_ask_13 ?_
    refine ax_i2l (pc := 14) C dX7_ask_14 ?_
    refine ax_lconst (pc := 15) (v := 0) C dX7_ask_15 (by decide) ?_
    refine ax_lconst (pc := 16) (v := 1) C dX7_ask_16 (by decide) ?_
    refine ax_callSi (pc := 17) C (w_X7_in F (lo := (0)) (hi := (1)) rfl rfl) kX7_in mX7_75 dX7_ask_17 (by decide) rfl rfl (Nat.le_of_ble_eq_true rfl) rfl ⟨Nat.le_refl _, Nat.le_refl _⟩ ?_
    refine ax_if_ne (pc := 20) (tgt := 26) C dX7_ask_20 (by decide) (fun h20 => ?_) (fun h20 => ?_)
    · have h20 := ax_bne h20
      refine ax_aload_0 (pc := 26) C dX7_ask_26 ?_
      refine ax_iconst (pc := 27) (v := 0) C dX7_ask_27 (by decide) ?_
      refine ax_putI (pc := 28) C fX7_269 dX7_ask_28 rfl rfl rfl rfl ?_
      refine ax_iload_2 (pc := 31) C dX7_ask_31 ?_
      refine ax_if_ne (pc := 32) (tgt := 43) C dX7_ask_32 (by decide) (fun z => False.elim (absurd z (by decide))) (fun _ => ?_)
      refine ax_aload_0 (pc := 35) C dX7_ask_35 ?_
      refine ax_iload_1 (pc := 36) C dX7_ask_36 ?_
      refine ax_callVi (pc := 37) C (w_X7_sizeOf_5 F (t := 0) (by omega) (by exact up_s) (by omega) (by simp (disch := decide) only [up_ne]; exact hk)) kX7_sizeOf mX7_284 dX7_ask_37 (by decide) rfl rfl rfl rfl rfl (Nat.le_of_ble_eq_true rfl) rfl ⟨Nat.le_refl _, Nat.le_refl _⟩ ?_
      refine ax_goto (pc := 40) (tgt := 48) C dX7_ask_40 (by decide) ?_
      exact ax_ir (pc := 48) C rfl dX7_ask_48 (by simp (disch := decide) only [up_ne]) rfl
    · have h20 := ax_beq h20
      exact absurd (by decide) h20

set_option maxRecDepth 20000 in
set_option maxHeartbeats 4000000 in
theorem w_X7_ask_m_1 {Y : ax_Y} {ad : Nat → Nat} (F : ax_F Y) {l : Launch} {σ : ax_Z} {n : Nat} (hn : σ 81 0 = nI n) (h6 : n ≤ 6) {c : Nat} (hc : c < n) (hk : σ 81 (8 + 6 * c + 0) = 1) : ax_m Y ad l iX7_ask 5 σ [.ref (ad 77), .int (nI c), .int 1] (some (.int (nI c + σ 81 (8 + 6 * c + 1)))) (mp_c (ax_up (ax_up σ 77 0 0) 77 34 0) 0 [21, 20]) := by
  have hcq : 0 ≤ nI c ∧ nI c ≤ nI n - 1 := ⟨nI_pos' (by omega), by rw [show (1 : Int32) = nI 1 from rfl, pk_sub (by omega)]; exact nI_le (by omega) (by omega)⟩
  refine ax_m.of F kX7_ask.1 [some (.ref (ad 77)), some (.int (nI c)), some (.int (1))] rfl (Nat.le_of_ble_eq_true rfl) (fun x C => ?_)
  refine ax_aload_0 (pc := 0) C dX7_ask_0 ?_
  refine ax_iconst (pc := 1) (v := 0) C dX7_ask_1 (by decide) ?_
  refine ax_putI (pc := 2) C fX7_65 dX7_ask_2 rfl rfl rfl rfl ?_
  refine ax_aload_0 (pc := 5) C dX7_ask_5 ?_
  refine ax_iload_1 (pc := 6) C dX7_ask_6 ?_
  refine ax_callVi (pc := 7) C (w_X7_isCart F (n := n) (by rw [up_ne (by decide)]; exact hn)) kX7_isCart mX7_230 dX7_ask_7 (by decide) rfl rfl rfl rfl rfl (Nat.le_of_ble_eq_true rfl) rfl ⟨Nat.le_refl _, Nat.le_refl _⟩ ?_
  refine ax_if_eq (pc := 10) (tgt := 23) C dX7_ask_10 (by decide) (fun h10 => ?_) (fun h10 => ?_)
  · have h10 := ax_beq h10
    exact absurd hcq h10
  · have h10 := ax_bne h10
    refine ax_iload_2 (pc := 13) C dX7_ask_13 ?_
    refine ax_i2l (pc := 14) C dX7_ask_14 ?_
    refine ax_lconst (pc := 15) (v := 0) C dX7_ask_15 (by decide) ?_
    refine ax_lconst (pc := 16) (v := 1) C dX7_ask_16 (by decide) ?_
    refine ax_callSi (pc := 17) C (w_X7_in F (lo := (0)) (hi := (1)) rfl rfl) kX7_in mX7_75 dX7_ask_17 (by decide) rfl rfl (Nat.le_of_ble_eq_true rfl) rfl ⟨Nat.le_refl _, Nat.le_refl _⟩ ?_
    refine ax_if_ne (pc := 20) (tgt := 26) C dX7_ask_20 (by decide) (fun h20 => ?_) (fun h20 => ?_)
    · have h20 := ax_bne h20
      refine ax_aload_0 (pc := 26) C dX7_ask_26 ?_
      refine ax_iconst (pc := 27) (v := 0) C dX7_ask_27 (by decide) ?_
      refine ax_putI (pc := 28) C fX7_269 dX7_ask_28 rfl rfl rfl rfl ?_
      refine ax_iload_2 (pc := 31) C dX7_ask_31 ?_
      refine ax_if_ne (pc := 32) (tgt := 43) C dX7_ask_32 (by decide) (fun _ => ?_) (fun z => False.elim (absurd z (by decide)))
      refine ax_aload_0 (pc := 43) C dX7_ask_43 ?_
      refine ax_iload_1 (pc := 44) C dX7_ask_44 ?_
      refine ax_callVi (pc := 45) C (w_X7_markOf_1 F (t := 0) (by omega) (by exact up_s) (by omega) (by simp (disch := decide) only [up_ne]; exact hk)) kX7_markOf mX7_281 dX7_ask_45 (by decide) rfl rfl rfl rfl rfl (Nat.le_of_ble_eq_true rfl) rfl ⟨Nat.le_refl _, Nat.le_refl _⟩ ?_
      exact ax_ir (pc := 48) C rfl dX7_ask_48 (by simp (disch := decide) only [up_ne]) rfl
    · have h20 := ax_beq h20
      exact absurd (by decide) h20

set_option maxRecDepth 20000 in
set_option maxHeartbeats 4000000 in
theorem w_X7_ask_m_2 {Y : ax_Y} {ad : Nat → Nat} (F : ax_F Y) {l : Launch} {σ : ax_Z} {n : Nat} (hn : σ 81 0 = nI n) (h6 : n ≤ 6) {c : Nat} (hc : c < n) (hk : σ 81 (8 + 6 * c + 0) = 2) : ax_m Y ad l iX7_ask 5 σ [.ref (ad 77), .int (nI c), .int 1] (some (.int (2 * (nI c + σ 81 (8 + 6 * c + 1))))) (mp_c (ax_up (ax_up σ 77 0 0) 77 34 0) 0 [24, 21, 20]) := by
  have hcq : 0 ≤ nI c ∧ nI c ≤ nI n - 1 := ⟨nI_pos' (by omega), by rw [show (1 : Int32) = nI 1 from rfl, pk_sub (by omega)]; exact nI_le (by omega) (by omega)⟩
  refine ax_m.of F kX7_ask.1 [some (.ref (ad 77)), some (.int (nI c)), some (.int (1))] rfl (Nat.le_of_ble_eq_true rfl) (fun x C => ?_)
  refine ax_aload_0 (pc := 0) C dX7_ask_0 ?_
  refine ax_iconst (pc := 1) (v := 0) C dX7_ask_1 (by decide) ?_
  refine ax_putI (pc := 2) C fX7_65 dX7_ask_2 rfl rfl rfl rfl ?_
  refine ax_aload_0 (pc := 5) C dX7_ask_5 ?_
  refine ax_iload_1 (pc := 6) C dX7_ask_6 ?_
  refine ax_callVi (pc := 7) C (w_X7_isCart F (n := n) (by rw [up_ne (by decide)]; exact hn)) kX7_isCart mX7_230 dX7_ask_7 (by decide) rfl rfl rfl rfl rfl (Nat.le_of_ble_eq_true rfl) rfl ⟨Nat.le_refl _, Nat.le_refl _⟩ ?_
  refine ax_if_eq (pc := 10) (tgt := 23) C dX7_ask_10 (by decide) (fun h10 => ?_) (fun h10 => ?_)
  · have h10 := ax_beq h10
    exact absurd hcq h10
  · have h10 := ax_bne h10
    refine ax_iload_2 (pc := 13) C dX7_ask_13 ?_
    refine ax_i2l (pc := 14) C dX7_ask_14 ?_
    refine ax_lconst (pc := 15) (v := 0) C dX7_ask_15 (by decide) ?_
    refine ax_lconst (pc := 16) (v := 1) C dX7_ask_16 (by decide) ?_
    refine ax_callSi (pc := 17) C (w_X7_in F (lo := (0)) (hi := (1)) rfl rfl) kX7_in mX7_75 dX7_ask_17 (by decide) rfl rfl (Nat.le_of_ble_eq_true rfl) rfl ⟨Nat.le_refl _, Nat.le_refl _⟩ ?_
    refine ax_if_ne (pc := 20) (tgt := 26) C dX7_ask_20 (by decide) (fun h20 => ?_) (fun h20 => ?_)
    · have h20 := ax_bne h20
      refine ax_aload_0 (pc := 26) C dX7_ask_26 ?_
      refine ax_iconst (pc := 27) (v := 0) C dX7_ask_27 (by decide) ?_
      refine ax_putI (pc := 28) C fX7_269 dX7_ask_28 rfl rfl rfl rfl ?_
      refine ax_iload_2 (pc := 31) C dX7_ask_31 ?_
      refine ax_if_ne (pc := 32) (tgt := 43) C dX7_ask_32 (by decide) (fun _ => ?_) (fun z => False.elim (absurd z (by decide)))
      refine ax_aload_0 (pc := 43) C dX7_ask_43 ?_
      refine ax_iload_1 (pc := 44) C dX7_ask_44 ?_
      refine ax_callVi (pc := 45) C (w_X7_markOf_2 F (t := 0) (by omega) (by exact up_s) (by omega) (by simp (disch := decide) only [up_ne]; exact hk)) kX7_markOf mX7_281 dX7_ask_45 (by decide) rfl rfl rfl rfl rfl (Nat.le_of_ble_eq_true rfl) rfl ⟨Nat.le_refl _, Nat.le_refl _⟩ ?_
      exact ax_ir (pc := 48) C rfl dX7_ask_48 (by simp (disch := decide) only [up_ne]) rfl
    · have h20 := ax_beq h20
      exact absurd (by decide) h20

set_option maxRecDepth 20000 in
set_option maxHeartbeats 4000000 in
theorem w_X7_ask_m_3 {Y : ax_Y} {ad : Nat → Nat} (F : ax_F Y) {l : Launch} {σ : ax_Z} {n : Nat} (hn : σ 81 0 = nI n) (h6 : n ≤ 6) {c : Nat} (hc : c < n) (hk : σ 81 (8 + 6 * c + 0) = 3) : ax_m Y ad l iX7_ask 5 σ [.ref (ad 77), .int (nI c), .int 1] (some (.int (nI c + σ 81 (8 + 6 * c + 1) - 1000))) (mp_c (ax_up (ax_up σ 77 0 0) 77 34 0) 0 [22, 21, 20]) := by
  have hcq : 0 ≤ nI c ∧ nI c ≤ nI n - 1 := ⟨nI_pos' (by omega), by rw [show (1 : Int32) = nI 1 from rfl, pk_sub (by omega)]; exact nI_le (by omega) (by omega)⟩
  refine ax_m.of F kX7_ask.1 [some (.ref (ad 77)), some (.int (nI c)), some (.int (1))] rfl (Nat.le_of_ble_eq_true rfl) (fun x C => ?_)
  refine ax_aload_0 (pc := 0) C dX7_ask_0 ?_
  refine ax_iconst (pc := 1) (v := 0) C dX7_ask_1 (by decide) ?_
  refine ax_putI (pc := 2) C fX7_65 dX7_ask_2 rfl rfl rfl rfl ?_
  refine ax_aload_0 (pc := 5) C dX7_ask_5 ?_
  refine ax_iload_1 (pc := 6) C dX7_ask_6 ?_
  refine ax_callVi (pc := 7) C (w_X7_isCart F (n := n) (by rw [up_ne (by decide)]; exact hn)) kX7_isCart mX7_230 dX7_ask_7 (by decide) rfl rfl rfl rfl rfl (Nat.le_of_ble_eq_true rfl) rfl ⟨Nat.le_refl _, Nat.le_refl _⟩ ?_
  refine ax_if_eq (pc := 10) (tgt := 23) C dX7_ask_10 (by decide) (fun h10 => ?_) (fun h10 => ?_)
  · have h10 := ax_beq h10
    exact absurd hcq h10
  · have h10 := ax_bne h10
    refine ax_iload_2 (pc := 13) C dX7_ask_13 ?_
    refine ax_i2l (pc := 14) C dX7_ask_14 ?_
    refine ax_lconst (pc := 15) (v := 0) C dX7_ask_15 (by decide) ?_
    refine ax_lconst (pc := 16) (v := 1) C dX7_ask_16 (by decide) ?_
    refine ax_callSi (pc := 17) C (w_X7_in F (lo := (0)) (hi := (1)) rfl rfl) kX7_in mX7_75 dX7_ask_17 (by decide) rfl rfl (Nat.le_of_ble_eq_true rfl) rfl ⟨Nat.le_refl _, Nat.le_refl _⟩ ?_
    refine ax_if_ne (pc := 20) (tgt := 26) C dX7_ask_20 (by decide) (fun h20 => ?_) (fun h20 => ?_)
    · have h20 := ax_bne h20
      refine ax_aload_0 (pc := 26) C dX7_ask_26 ?_
      refine ax_iconst (pc := 27) (v := 0) C dX7_ask_27 (by decide) ?_
      refine ax_putI (pc := 28) C fX7_269 dX7_ask_28 rfl rfl rfl rfl ?_
      refine ax_iload_2 (pc := 31) C dX7_ask_31 ?_
      refine ax_if_ne (pc := 32) (tgt := 43) C dX7_ask_32 (by decide) (fun _ => ?_) (fun z => False.elim (absurd z (by decide)))
      refine ax_aload_0 (pc := 43) C dX7_ask_43 ?_
      refine ax_iload_1 (pc := 44) C dX7_ask_44 ?_
      refine ax_callVi (pc := 45) C (w_X7_markOf_3 F (t := 0) (by omega) (by exact up_s) (by omega) (by simp (disch := decide) only [up_ne]; exact hk)) kX7_markOf mX7_281 dX7_ask_45 (by decide) rfl rfl rfl rfl rfl (Nat.le_of_ble_eq_true rfl) rfl ⟨Nat.le_refl _, Nat.le_refl _⟩ ?_
      exact ax_ir (pc := 48) C rfl dX7_ask_48 (by simp (disch := decide) only [up_ne]) rfl
    · have h20 := ax_beq h20
      exact absurd (by decide) h20

set_option maxRecDepth 20000 in
set_option maxHeartbeats 4000000 in
theorem w_X7_ask_m_4 {Y : ax_Y} {ad : Nat → Nat} (F : ax_F Y) {l : Launch} {σ : ax_Z} {n : Nat} (hn : σ 81 0 = nI n) (h6 : n ≤ 6) {c : Nat} (hc : c < n) (hk : σ 81 (8 + 6 * c + 0) = 4) : ax_m Y ad l iX7_ask 5 σ [.ref (ad 77), .int (nI c), .int 1] (some (.int (nI c - (σ 81 (8 + 6 * c + 2) - 100)))) (mp_c (ax_up (ax_up σ 77 0 0) 77 34 0) 0 [23, 20, 13, 10]) := by
  have hcq : 0 ≤ nI c ∧ nI c ≤ nI n - 1 := ⟨nI_pos' (by omega), by rw [show (1 : Int32) = nI 1 from rfl, pk_sub (by omega)]; exact nI_le (by omega) (by omega)⟩
  refine ax_m.of F kX7_ask.1 [some (.ref (ad 77)), some (.int (nI c)), some (.int (1))] rfl (Nat.le_of_ble_eq_true rfl) (fun x C => ?_)
  refine ax_aload_0 (pc := 0) C dX7_ask_0 ?_
  refine ax_iconst (pc := 1) (v := 0) C dX7_ask_1 (by decide) ?_
  refine ax_putI (pc := 2) C fX7_65 dX7_ask_2 rfl rfl rfl rfl ?_
  refine ax_aload_0 (pc := 5) C dX7_ask_5 ?_
  refine ax_iload_1 (pc := 6) C dX7_ask_6 ?_
  refine ax_callVi (pc := 7) C (w_X7_isCart F (n := n) (by rw [up_ne (by decide)]; exact hn)) kX7_isCart mX7_230 dX7_ask_7 (by decide) rfl rfl rfl rfl rfl (Nat.le_of_ble_eq_true rfl) rfl ⟨Nat.le_refl _, Nat.le_refl _⟩ ?_
  refine ax_if_eq (pc := 10) (tgt := 23) C dX7_ask_10 (by decide) (fun h10 => ?_) (fun h10 => ?_)
  · have h10 := ax_beq h10
    exact absurd hcq h10
  · have h10 := ax_bne h10
    refine ax_iload_2 (pc := 13) C dX7_ask_13 ?_
    refine ax_i2l (pc := 14) C dX7_ask_14 ?_
    refine ax_lconst (pc := 15) (v := 0) C dX7_ask_15 (by decide) ?_
    refine ax_lconst (pc := 16) (v := 1) C dX7_ask_16 (by decide) ?_
    refine ax_callSi (pc := 17) C (w_X7_in F (lo := (0)) (hi := (1)) rfl rfl) kX7_in mX7_75 dX7_ask_17 (by decide) rfl rfl (Nat.le_of_ble_eq_true rfl) rfl ⟨Nat.le_refl _, Nat.le_refl _⟩ ?_
    refine ax_if_ne (pc := 20) (tgt := 26) C dX7_ask_20 (by decide) (fun h20 => ?_) (fun h20 => ?_)
    · have h20 := ax_bne h20
      refine ax_aload_0 (pc := 26) C dX7_ask_26 ?_
      refine ax_iconst (pc := 27) (v := 0) C dX7_ask_27 (by decide) ?_
      refine ax_putI (pc := 28) C fX7_269 dX7_ask_28 rfl rfl rfl rfl ?_
      refine ax_iload_2 (pc := 31) C dX7_ask_31 ?_
      refine ax_if_ne (pc := 32) (tgt := 43) C dX7_ask_32 (by decide) (fun _ => ?_) (fun z => False.elim (absurd z (by decide)))
      refine ax_aload_0 (pc := 43) C dX7_ask_43 ?_
      refine ax_iload_1 (pc := 44) C dX7_ask_44 ?_
      refine ax_callVi (pc := 45) C (w_X7_markOf_4 F (t := 0) (by omega) (by exact up_s) (by omega) (by simp (disch := decide) only [up_ne]; exact hk)) kX7_markOf mX7_281 dX7_ask_45 (by decide) rfl rfl rfl rfl rfl (Nat.le_of_ble_eq_true rfl) rfl ⟨Nat.le_refl _, Nat.le_refl _⟩ ?_
      exact ax_ir (pc := 48) C rfl dX7_ask_48 (by simp (disch := decide) only [up_ne]) rfl
    · have h20 := ax_beq h20
      exact absurd (by decide) h20

set_option maxRecDepth 20000 in
set_option maxHeartbeats 4000000 in
theorem w_X7_ask_m_5 {Y : ax_Y} {ad : Nat → Nat} (F : ax_F Y) {l : Launch} {σ : ax_Z} {n : Nat} (hn : σ 81 0 = nI n) (h6 : n ≤ 6) {c : Nat} (hc : c < n) (hk : σ 81 (8 + 6 * c + 0) = 5) : ax_m Y ad l iX7_ask 5 σ [.ref (ad 77), .int (nI c), .int 1] (some (.int (nI c - (2 * (σ 81 (8 + 6 * c + 2) - 100))))) (mp_c (ax_up (ax_up σ 77 0 0) 77 34 0) 0 [23, 20, 14, 13, 10]) := by
  have hcq : 0 ≤ nI c ∧ nI c ≤ nI n - 1 := ⟨nI_pos' (by omega), by rw [show (1 : Int32) = nI 1 from rfl, pk_sub (by omega)]; exact nI_le (by omega) (by omega)⟩
  refine ax_m.of F kX7_ask.1 [some (.ref (ad 77)), some (.int (nI c)), some (.int (1))] rfl (Nat.le_of_ble_eq_true rfl) (fun x C => ?_)
  refine ax_aload_0 (pc := 0) C dX7_ask_0 ?_
  refine ax_iconst (pc := 1) (v := 0) C dX7_ask_1 (by decide) ?_
  refine ax_putI (pc := 2) C fX7_65 dX7_ask_2 rfl rfl rfl rfl ?_
  refine ax_aload_0 (pc := 5) C dX7_ask_5 ?_
  refine ax_iload_1 (pc := 6) C dX7_ask_6 ?_
  refine ax_callVi (pc := 7) C (w_X7_isCart F (n := n) (by rw [up_ne (by decide)]; exact hn)) kX7_isCart mX7_230 dX7_ask_7 (by decide) rfl rfl rfl rfl rfl (Nat.le_of_ble_eq_true rfl) rfl ⟨Nat.le_refl _, Nat.le_refl _⟩ ?_
  refine ax_if_eq (pc := 10) (tgt := 23) C dX7_ask_10 (by decide) (fun h10 => ?_) (fun h10 => ?_)
  · have h10 := ax_beq h10
    exact absurd hcq h10
  · have h10 := ax_bne h10
    refine ax_iload_2 (pc := 13) C dX7_ask_13 ?_
    refine ax_i2l (pc := 14) C dX7_ask_14 ?_
    refine ax_lconst (pc := 15) (v := 0) C dX7_ask_15 (by decide) ?_
    refine ax_lconst (pc := 16) (v := 1) C dX7_ask_16 (by decide) ?_
    refine ax_callSi (pc := 17) C (w_X7_in F (lo := (0)) (hi := (1)) rfl rfl) kX7_in mX7_75 dX7_ask_17 (by decide) rfl rfl (Nat.le_of_ble_eq_true rfl) rfl ⟨Nat.le_refl _, Nat.le_refl _⟩ ?_
    refine ax_if_ne (pc := 20) (tgt := 26) C dX7_ask_20 (by decide) (fun h20 => ?_) (fun h20 => ?_)
    · have h20 := ax_bne h20
      refine ax_aload_0 (pc := 26) C dX7_ask_26 ?_
      refine ax_iconst (pc := 27) (v := 0) C dX7_ask_27 (by decide) ?_
      refine ax_putI (pc := 28) C fX7_269 dX7_ask_28 rfl rfl rfl rfl ?_
      refine ax_iload_2 (pc := 31) C dX7_ask_31 ?_
      refine ax_if_ne (pc := 32) (tgt := 43) C dX7_ask_32 (by decide) (fun _ => ?_) (fun z => False.elim (absurd z (by decide)))
      refine ax_aload_0 (pc := 43) C dX7_ask_43 ?_
      refine ax_iload_1 (pc := 44) C dX7_ask_44 ?_
      refine ax_callVi (pc := 45) C (w_X7_markOf_5 F (t := 0) (by omega) (by exact up_s) (by omega) (by simp (disch := decide) only [up_ne]; exact hk)) kX7_markOf mX7_281 dX7_ask_45 (by decide) rfl rfl rfl rfl rfl (Nat.le_of_ble_eq_true rfl) rfl ⟨Nat.le_refl _, Nat.le_refl _⟩ ?_
      exact ax_ir (pc := 48) C rfl dX7_ask_48 (by simp (disch := decide) only [up_ne]) rfl
    · have h20 := ax_beq h20
      exact absurd (by decide) h20

set_option maxRecDepth 20000 in
set_option maxHeartbeats 4000000 in
theorem w_X7_ask_b {Y : ax_Y} {ad : Nat → Nat} (F : ax_F Y) {l : Launch} {σ : ax_Z} {n : Nat} (hn : σ 81 0 = nI n) (h6 : n ≤ 6) {cart k : Int32} (hb : ¬ ((0 ≤ cart ∧ cart ≤ nI n - 1) ∧ (0 ≤ k ∧ k ≤ 1))) : ax_m Y ad l iX7_ask 5 σ [.ref (ad 77), .int cart, .int k] (some (.int (-1000001))) (ax_up σ 77 0 0) := by
  refine ax_m.of F kX7_ask.1 [some (.ref (ad 77)), some (.int (cart)), some (.int (k))] rfl (Nat.le_of_ble_eq_true rfl) (fun x C => ?_)
  refine ax_aload_0 (pc := 0) C dX7_ask_0 ?_
  refine ax_iconst (pc := 1) (v := 0) C dX7_ask_1 (by decide) ?_
  refine ax_putI (pc := 2) C fX7_65 dX7_ask_2 rfl rfl rfl rfl ?_
  refine ax_aload_0 (pc := 5) C dX7_ask_5 ?_
  refine ax_iload_1 (pc := 6) C dX7_ask_6 ?_
  refine ax_callVi (pc := 7) C (w_X7_isCart F (n := n) (by rw [up_ne (by decide)]; exact hn)) kX7_isCart mX7_230 dX7_ask_7 (by decide) rfl rfl rfl rfl rfl (Nat.le_of_ble_eq_true rfl) rfl ⟨Nat.le_refl _, Nat.le_refl _⟩ ?_
  refine ax_if_eq (pc := 10) (tgt := 23) C dX7_ask_10 (by decide) (fun h10 => ?_) (fun h10 => ?_)
  · have h10 := ax_beq h10
    refine ax_ldc (pc := 23) C dX7_ask_23 qX7_85 ?_
    exact ax_ir (pc := 25) C rfl dX7_ask_25 rfl rfl
  · have h10 := ax_bne h10
    refine ax_iload_2 (pc := 13) C dX7_ask_13 ?_
    refine ax_i2l (pc := 14) C dX7_ask_14 ?_
    refine ax_lconst (pc := 15) (v := 0) C dX7_ask_15 (by decide) ?_
    refine ax_lconst (pc := 16) (v := 1) C dX7_ask_16 (by decide) ?_
    refine ax_callSi (pc := 17) C (w_X7_in F (lo := (0)) (hi := (1)) rfl rfl) kX7_in mX7_75 dX7_ask_17 (by decide) rfl rfl (Nat.le_of_ble_eq_true rfl) rfl ⟨Nat.le_refl _, Nat.le_refl _⟩ ?_
    refine ax_if_ne (pc := 20) (tgt := 26) C dX7_ask_20 (by decide) (fun h20 => ?_) (fun h20 => ?_)
    · have h20 := ax_bne h20
      exact absurd (And.intro h10 h20) hb
    · have h20 := ax_beq h20
      refine ax_ldc (pc := 23) C dX7_ask_23 qX7_85 ?_
      exact ax_ir (pc := 25) C rfl dX7_ask_25 rfl rfl

set_option maxRecDepth 20000 in
set_option maxHeartbeats 4000000 in
theorem w_X7_kindBy {Y : ax_Y} {ad : Nat → Nat} (F : ax_F Y) {l : Launch} {σ : ax_Z} {v : Int64} : ax_m Y ad l iX7_kindBy 0 σ [.long v] (some (.int (if v = 2002872692 then 1 else (if v = 26479 then 4 else (if v = 1718579821 then 2 else (if v = 1650549611 then 3 else (if v = 422725643876 then 5 else -1000000))))))) σ := by
  refine ax_m.of F kX7_kindBy.1 [some (.long v), none] rfl (Nat.le_of_ble_eq_true rfl) (fun x C => ?_)
  refine ax_lload_0 (pc := 0) C dX7_kindBy_0 ?_
  refine ax_ldc2 (pc := 1) C dX7_kindBy_1 qX7_144 ?_
  refine ax_lcmp (pc := 4) C dX7_kindBy_4 ?_
  refine ax_if_ne (pc := 5) (tgt := 12) C dX7_kindBy_5 (by decide) (fun h5 => ?_) (fun h5 => ?_)
  · refine ax_lload_0 (pc := 12) C dX7_kindBy_12 ?_
    refine ax_ldc2 (pc := 13) C dX7_kindBy_13 qX7_146 ?_
    refine ax_lcmp (pc := 16) C dX7_kindBy_16 ?_
    refine ax_if_ne (pc := 17) (tgt := 24) C dX7_kindBy_17 (by decide) (fun h17 => ?_) (fun h17 => ?_)
    · refine ax_lload_0 (pc := 24) C dX7_kindBy_24 ?_
      refine ax_ldc2 (pc := 25) C dX7_kindBy_25 qX7_148 ?_
      refine ax_lcmp (pc := 28) C dX7_kindBy_28 ?_
      refine ax_if_ne (pc := 29) (tgt := 36) C dX7_kindBy_29 (by decide) (fun h29 => ?_) (fun h29 => ?_)
      · refine ax_lload_0 (pc := 36) C dX7_kindBy_36 ?_
        refine ax_ldc2 (pc := 37) C dX7_kindBy_37 qX7_150 ?_
        refine ax_lcmp (pc := 40) C dX7_kindBy_40 ?_
        refine ax_if_ne (pc := 41) (tgt := 48) C dX7_kindBy_41 (by decide) (fun h41 => ?_) (fun h41 => ?_)
        · refine ax_lload_0 (pc := 48) C dX7_kindBy_48 ?_
          refine ax_ldc2 (pc := 49) C dX7_kindBy_49 qX7_152 ?_
          refine ax_lcmp (pc := 52) C dX7_kindBy_52 ?_
          refine ax_if_ne (pc := 53) (tgt := 60) C dX7_kindBy_53 (by decide) (fun h53 => ?_) (fun h53 => ?_)
          · refine ax_ldc (pc := 60) C dX7_kindBy_60 qX7_101 ?_
            exact ax_ir (pc := 62) C rfl dX7_kindBy_62 (by rw [if_neg (fun z => h5 ((lg_cmp_eq _ _).mpr z)), if_neg (fun z => h17 ((lg_cmp_eq _ _).mpr z)), if_neg (fun z => h29 ((lg_cmp_eq _ _).mpr z)), if_neg (fun z => h41 ((lg_cmp_eq _ _).mpr z)), if_neg (fun z => h53 ((lg_cmp_eq _ _).mpr z))]) rfl
          · refine ax_iconst (pc := 56) (v := 5) C dX7_kindBy_56 (by decide) ?_
            refine ax_goto (pc := 57) (tgt := 62) C dX7_kindBy_57 (by decide) ?_
            exact ax_ir (pc := 62) C rfl dX7_kindBy_62 (by rw [if_neg (fun z => h5 ((lg_cmp_eq _ _).mpr z)), if_neg (fun z => h17 ((lg_cmp_eq _ _).mpr z)), if_neg (fun z => h29 ((lg_cmp_eq _ _).mpr z)), if_neg (fun z => h41 ((lg_cmp_eq _ _).mpr z)), if_pos ((lg_cmp_eq _ _).mp h53)]) rfl
        · refine ax_iconst (pc := 44) (v := 3) C dX7_kindBy_44 (by decide) ?_
          refine ax_goto (pc := 45) (tgt := 62) C dX7_kindBy_45 (by decide) ?_
          exact ax_ir (pc := 62) C rfl dX7_kindBy_62 (by rw [if_neg (fun z => h5 ((lg_cmp_eq _ _).mpr z)), if_neg (fun z => h17 ((lg_cmp_eq _ _).mpr z)), if_neg (fun z => h29 ((lg_cmp_eq _ _).mpr z)), if_pos ((lg_cmp_eq _ _).mp h41)]) rfl
      · refine ax_iconst (pc := 32) (v := 2) C dX7_kindBy_32 (by decide) ?_
        refine ax_goto (pc := 33) (tgt := 62) C dX7_kindBy_33 (by decide) ?_
        exact ax_ir (pc := 62) C rfl dX7_kindBy_62 (by rw [if_neg (fun z => h5 ((lg_cmp_eq _ _).mpr z)), if_neg (fun z => h17 ((lg_cmp_eq _ _).mpr z)), if_pos ((lg_cmp_eq _ _).mp h29)]) rfl
    · refine ax_iconst (pc := 20) (v := 4) C dX7_kindBy_20 (by decide) ?_
      refine ax_goto (pc := 21) (tgt := 62) C dX7_kindBy_21 (by decide) ?_
      exact ax_ir (pc := 62) C rfl dX7_kindBy_62 (by rw [if_neg (fun z => h5 ((lg_cmp_eq _ _).mpr z)), if_pos ((lg_cmp_eq _ _).mp h17)]) rfl
  · refine ax_iconst (pc := 8) (v := 1) C dX7_kindBy_8 (by decide) ?_
    refine ax_goto (pc := 9) (tgt := 62) C dX7_kindBy_9 (by decide) ?_
    exact ax_ir (pc := 62) C rfl dX7_kindBy_62 (by rw [if_pos ((lg_cmp_eq _ _).mp h5)]) rfl
