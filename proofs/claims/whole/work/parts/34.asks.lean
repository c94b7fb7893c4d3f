/-- a body's number in the trace -/
def as_p (σ : ax_Z) (t : Nat) (b : Int32) : ax_Z := ax_up (ax_up σ 40 t b) 39 1 (nI (t + 1))
def as_c (σ : ax_Z) : Nat → List Int32 → ax_Z
  | _, [] => σ
  | t, b :: bs => as_c (as_p σ t b) (t + 1) bs
theorem as_ne {σ : ax_Z} {t a : Nat} {b : Int32} (h : a ≠ 39 ∧ a ≠ 40) : as_p σ t b a = σ a := by
  unfold as_p
  simp (disch := omega) only [up_ne]
theorem as_16 {σ : ax_Z} {t : Nat} {b : Int32} : as_p σ t b 16 = σ 16 := as_ne (by decide)
theorem as_17 {σ : ax_Z} {t : Nat} {b : Int32} : as_p σ t b 17 = σ 17 := as_ne (by decide)
theorem as_18 {σ : ax_Z} {t : Nat} {b : Int32} : as_p σ t b 18 = σ 18 := as_ne (by decide)
theorem as_l {σ : ax_Z} {t : Nat} {b : Int32} : as_p σ t b 39 1 = nI (t + 1) := up_s
def kd_is (k w : Nat) : Bool := decide (w = 0) || decide (k = w) || (decide (w = 1) && decide (k < 4)) || (decide (w = 4) && decide (k = 5))

set_option maxRecDepth 20000 in
set_option maxHeartbeats 4000000 in
theorem w_X6_bodyFor_1_1 {Y : ax_Y} {ad : Nat → Nat} (F : ax_F Y) {l : Launch} {σ : ax_Z} {a : Nat} (hs : ax_St Y 1 a) : ax_m Y ad l iX6_bodyFor 1 σ [.ref a, .int 1] (some (.int 11)) σ := by
  obtain ⟨a0, hS0⟩ := ax_St_0 F
  refine ax_m.of F kX6_bodyFor.1 [some (.ref a), some (.int (1)), none, none] rfl (Nat.le_of_ble_eq_true rfl) (fun x C => ?_)
  refine ax_iload_1 (pc := 0) C dX6_bodyFor_0 ?_
  refine ax_istore_2 (pc := 1) C dX6_bodyFor_1 rfl ?_
  refine ax_iconst (pc := 2) (v := 0) C dX6_bodyFor_2 (by decide) ?_
  refine ax_istore_3 (pc := 3) C dX6_bodyFor_3 rfl ?_
  refine ax_iload_3 (pc := 4) C dX6_bodyFor_4 ?_
  refine ax_bipush (pc := 5) (v := 6) C dX6_bodyFor_5 (by decide) ?_
  refine ax_icmp_ge (pc := 7) (tgt := 41) C dX6_bodyFor_7 (by decide) (fun z => False.elim (absurd z (by decide))) (fun _ => ?_)
  refine ax_iload_2 (pc := 10) C dX6_bodyFor_10 ?_
  refine ax_iconst (pc := 11) (v := 0) C dX6_bodyFor_11 (by decide) ?_
  refine ax_iconst (pc := 12) (v := 5) C dX6_bodyFor_12 (by decide) ?_
  refine ax_callSi (pc := 13) C (w_X6_isWithin F) kX6_isWithin mX6_59 dX6_bodyFor_13 (by decide) rfl rfl (Nat.le_of_ble_eq_true rfl) rfl ⟨Nat.le_refl _, Nat.le_refl _⟩ ?_
  refine ax_if_eq (pc := 16) (tgt := 41) C dX6_bodyFor_16 (by decide) (fun z => False.elim (ax_beq z (by decide))) (fun _ => ?_)
  refine ax_aload_0 (pc := 19) C dX6_bodyFor_19 ?_
  refine ax_iload_2 (pc := 20) C dX6_bodyFor_20 ?_
  refine ax_sta (pc := 21) C hs (w := 11) 1 (by decide) rfl rfl dX6_bodyFor_21 ?_
  refine ax_if_eq (pc := 22) (tgt := 29) C dX6_bodyFor_22 (by decide) (fun z => False.elim (absurd z (by decide))) (fun _ => ?_)
  refine ax_aload_0 (pc := 25) C dX6_bodyFor_25 ?_
  refine ax_iload_2 (pc := 26) C dX6_bodyFor_26 ?_
  refine ax_sta (pc := 27) C hs (w := 11) 1 (by decide) rfl rfl dX6_bodyFor_27 ?_
  exact ax_ir (pc := 28) C rfl dX6_bodyFor_28 rfl rfl

set_option maxRecDepth 20000 in
set_option maxHeartbeats 4000000 in
theorem w_X6_bodyFor_1_2 {Y : ax_Y} {ad : Nat → Nat} (F : ax_F Y) {l : Launch} {σ : ax_Z} {a : Nat} (hs : ax_St Y 1 a) : ax_m Y ad l iX6_bodyFor 1 σ [.ref a, .int 2] (some (.int 12)) σ := by
  obtain ⟨a0, hS0⟩ := ax_St_0 F
  refine ax_m.of F kX6_bodyFor.1 [some (.ref a), some (.int (2)), none, none] rfl (Nat.le_of_ble_eq_true rfl) (fun x C => ?_)
  refine ax_iload_1 (pc := 0) C dX6_bodyFor_0 ?_
  refine ax_istore_2 (pc := 1) C dX6_bodyFor_1 rfl ?_
  refine ax_iconst (pc := 2) (v := 0) C dX6_bodyFor_2 (by decide) ?_
  refine ax_istore_3 (pc := 3) C dX6_bodyFor_3 rfl ?_
  refine ax_iload_3 (pc := 4) C dX6_bodyFor_4 ?_
  refine ax_bipush (pc := 5) (v := 6) C dX6_bodyFor_5 (by decide) ?_
  refine ax_icmp_ge (pc := 7) (tgt := 41) C dX6_bodyFor_7 (by decide) (fun z => False.elim (absurd z (by decide))) (fun _ => ?_)
  refine ax_iload_2 (pc := 10) C dX6_bodyFor_10 ?_
  refine ax_iconst (pc := 11) (v := 0) C dX6_bodyFor_11 (by decide) ?_
  refine ax_iconst (pc := 12) (v := 5) C dX6_bodyFor_12 (by decide) ?_
  refine ax_callSi (pc := 13) C (w_X6_isWithin F) kX6_isWithin mX6_59 dX6_bodyFor_13 (by decide) rfl rfl (Nat.le_of_ble_eq_true rfl) rfl ⟨Nat.le_refl _, Nat.le_refl _⟩ ?_
  refine ax_if_eq (pc := 16) (tgt := 41) C dX6_bodyFor_16 (by decide) (fun z => False.elim (ax_beq z (by decide))) (fun _ => ?_)
  refine ax_aload_0 (pc := 19) C dX6_bodyFor_19 ?_
  refine ax_iload_2 (pc := 20) C dX6_bodyFor_20 ?_
  refine ax_sta (pc := 21) C hs (w := 12) 2 (by decide) rfl rfl dX6_bodyFor_21 ?_
  refine ax_if_eq (pc := 22) (tgt := 29) C dX6_bodyFor_22 (by decide) (fun z => False.elim (absurd z (by decide))) (fun _ => ?_)
  refine ax_aload_0 (pc := 25) C dX6_bodyFor_25 ?_
  refine ax_iload_2 (pc := 26) C dX6_bodyFor_26 ?_
  refine ax_sta (pc := 27) C hs (w := 12) 2 (by decide) rfl rfl dX6_bodyFor_27 ?_
  exact ax_ir (pc := 28) C rfl dX6_bodyFor_28 rfl rfl

set_option maxRecDepth 20000 in
set_option maxHeartbeats 4000000 in
theorem w_X6_bodyFor_1_3 {Y : ax_Y} {ad : Nat → Nat} (F : ax_F Y) {l : Launch} {σ : ax_Z} {a : Nat} (hs : ax_St Y 1 a) : ax_m Y ad l iX6_bodyFor 1 σ [.ref a, .int 3] (some (.int 11)) σ := by
  obtain ⟨a0, hS0⟩ := ax_St_0 F
  refine ax_m.of F kX6_bodyFor.1 [some (.ref a), some (.int (3)), none, none] rfl (Nat.le_of_ble_eq_true rfl) (fun x C => ?_)
  refine ax_iload_1 (pc := 0) C dX6_bodyFor_0 ?_
  refine ax_istore_2 (pc := 1) C dX6_bodyFor_1 rfl ?_
  refine ax_iconst (pc := 2) (v := 0) C dX6_bodyFor_2 (by decide) ?_
  refine ax_istore_3 (pc := 3) C dX6_bodyFor_3 rfl ?_
  refine ax_iload_3 (pc := 4) C dX6_bodyFor_4 ?_
  refine ax_bipush (pc := 5) (v := 6) C dX6_bodyFor_5 (by decide) ?_
  refine ax_icmp_ge (pc := 7) (tgt := 41) C dX6_bodyFor_7 (by decide) (fun z => False.elim (absurd z (by decide))) (fun _ => ?_)
  refine ax_iload_2 (pc := 10) C dX6_bodyFor_10 ?_
  refine ax_iconst (pc := 11) (v := 0) C dX6_bodyFor_11 (by decide) ?_
  refine ax_iconst (pc := 12) (v := 5) C dX6_bodyFor_12 (by decide) ?_
  refine ax_callSi (pc := 13) C (w_X6_isWithin F) kX6_isWithin mX6_59 dX6_bodyFor_13 (by decide) rfl rfl (Nat.le_of_ble_eq_true rfl) rfl ⟨Nat.le_refl _, Nat.le_refl _⟩ ?_
  refine ax_if_eq (pc := 16) (tgt := 41) C dX6_bodyFor_16 (by decide) (fun z => False.elim (ax_beq z (by decide))) (fun _ => ?_)
  refine ax_aload_0 (pc := 19) C dX6_bodyFor_19 ?_
  refine ax_iload_2 (pc := 20) C dX6_bodyFor_20 ?_
  refine ax_sta (pc := 21) C hs (w := 0) 3 (by decide) rfl rfl dX6_bodyFor_21 ?_
  refine ax_if_eq (pc := 22) (tgt := 29) C dX6_bodyFor_22 (by decide) (fun _ => ?_) (fun z => False.elim (absurd z (by decide)))
  refine ax_gets (pc := 29) C hS0 st_254 dX6_bodyFor_29 ?_
  refine ax_iload_2 (pc := 32) C dX6_bodyFor_32 ?_
  refine ax_sta (pc := 33) C hS0 (w := 1) 3 (by decide) rfl rfl dX6_bodyFor_33 ?_
  refine ax_istore_2 (pc := 34) C dX6_bodyFor_34 rfl ?_
  refine ax_iinc_3 (pc := 35) C dX6_bodyFor_35 (1) (by decide) rfl ?_
  refine ax_goto (pc := 38) (tgt := 4) C dX6_bodyFor_38 (by decide) ?_
  refine ax_iload_3 (pc := 4) C dX6_bodyFor_4 ?_
  refine ax_bipush (pc := 5) (v := 6) C dX6_bodyFor_5 (by decide) ?_
  refine ax_icmp_ge (pc := 7) (tgt := 41) C dX6_bodyFor_7 (by decide) (fun z => False.elim (absurd z (by decide))) (fun _ => ?_)
  refine ax_iload_2 (pc := 10) C dX6_bodyFor_10 ?_
  refine ax_iconst (pc := 11) (v := 0) C dX6_bodyFor_11 (by decide) ?_
  refine ax_iconst (pc := 12) (v := 5) C dX6_bodyFor_12 (by decide) ?_
  refine ax_callSi (pc := 13) C (w_X6_isWithin F) kX6_isWithin mX6_59 dX6_bodyFor_13 (by decide) rfl rfl (Nat.le_of_ble_eq_true rfl) rfl ⟨Nat.le_refl _, Nat.le_refl _⟩ ?_
  refine ax_if_eq (pc := 16) (tgt := 41) C dX6_bodyFor_16 (by decide) (fun z => False.elim (ax_beq z (by decide))) (fun _ => ?_)
  refine ax_aload_0 (pc := 19) C dX6_bodyFor_19 ?_
  refine ax_iload_2 (pc := 20) C dX6_bodyFor_20 ?_
  refine ax_sta (pc := 21) C hs (w := 11) 1 (by decide) rfl rfl dX6_bodyFor_21 ?_
  refine ax_if_eq (pc := 22) (tgt := 29) C dX6_bodyFor_22 (by decide) (fun z => False.elim (absurd z (by decide))) (fun _ => ?_)
  refine ax_aload_0 (pc := 25) C dX6_bodyFor_25 ?_
  refine ax_iload_2 (pc := 26) C dX6_bodyFor_26 ?_
  refine ax_sta (pc := 27) C hs (w := 11) 1 (by decide) rfl rfl dX6_bodyFor_27 ?_
  exact ax_ir (pc := 28) C rfl dX6_bodyFor_28 rfl rfl

set_option maxRecDepth 20000 in
set_option maxHeartbeats 4000000 in
theorem w_X6_bodyFor_1_4 {Y : ax_Y} {ad : Nat → Nat} (F : ax_F Y) {l : Launch} {σ : ax_Z} {a : Nat} (hs : ax_St Y 1 a) : ax_m Y ad l iX6_bodyFor 1 σ [.ref a, .int 4] (some (.int 13)) σ := by
  obtain ⟨a0, hS0⟩ := ax_St_0 F
  refine ax_m.of F kX6_bodyFor.1 [some (.ref a), some (.int (4)), none, none] rfl (Nat.le_of_ble_eq_true rfl) (fun x C => ?_)
  refine ax_iload_1 (pc := 0) C dX6_bodyFor_0 ?_
  refine ax_istore_2 (pc := 1) C dX6_bodyFor_1 rfl ?_
  refine ax_iconst (pc := 2) (v := 0) C dX6_bodyFor_2 (by decide) ?_
  refine ax_istore_3 (pc := 3) C dX6_bodyFor_3 rfl ?_
  refine ax_iload_3 (pc := 4) C dX6_bodyFor_4 ?_
  refine ax_bipush (pc := 5) (v := 6) C dX6_bodyFor_5 (by decide) ?_
  refine ax_icmp_ge (pc := 7) (tgt := 41) C dX6_bodyFor_7 (by decide) (fun z => False.elim (absurd z (by decide))) (fun _ => ?_)
  refine ax_iload_2 (pc := 10) C dX6_bodyFor_10 ?_
  refine ax_iconst (pc := 11) (v := 0) C dX6_bodyFor_11 (by decide) ?_
  refine ax_iconst (pc := 12) (v := 5) C dX6_bodyFor_12 (by decide) ?_
  refine ax_callSi (pc := 13) C (w_X6_isWithin F) kX6_isWithin mX6_59 dX6_bodyFor_13 (by decide) rfl rfl (Nat.le_of_ble_eq_true rfl) rfl ⟨Nat.le_refl _, Nat.le_refl _⟩ ?_
  refine ax_if_eq (pc := 16) (tgt := 41) C dX6_bodyFor_16 (by decide) (fun z => False.elim (ax_beq z (by decide))) (fun _ => ?_)
  refine ax_aload_0 (pc := 19) C dX6_bodyFor_19 ?_
  refine ax_iload_2 (pc := 20) C dX6_bodyFor_20 ?_
  refine ax_sta (pc := 21) C hs (w := 13) 4 (by decide) rfl rfl dX6_bodyFor_21 ?_
  refine ax_if_eq (pc := 22) (tgt := 29) C dX6_bodyFor_22 (by decide) (fun z => False.elim (absurd z (by decide))) (fun _ => ?_)
  refine ax_aload_0 (pc := 25) C dX6_bodyFor_25 ?_
  refine ax_iload_2 (pc := 26) C dX6_bodyFor_26 ?_
  refine ax_sta (pc := 27) C hs (w := 13) 4 (by decide) rfl rfl dX6_bodyFor_27 ?_
  exact ax_ir (pc := 28) C rfl dX6_bodyFor_28 rfl rfl

set_option maxRecDepth 20000 in
set_option maxHeartbeats 4000000 in
theorem w_X6_bodyFor_1_5 {Y : ax_Y} {ad : Nat → Nat} (F : ax_F Y) {l : Launch} {σ : ax_Z} {a : Nat} (hs : ax_St Y 1 a) : ax_m Y ad l iX6_bodyFor 1 σ [.ref a, .int 5] (some (.int 14)) σ := by
  obtain ⟨a0, hS0⟩ := ax_St_0 F
  refine ax_m.of F kX6_bodyFor.1 [some (.ref a), some (.int (5)), none, none] rfl (Nat.le_of_ble_eq_true rfl) (fun x C => ?_)
  refine ax_iload_1 (pc := 0) C dX6_bodyFor_0 ?_
  refine ax_istore_2 (pc := 1) C dX6_bodyFor_1 rfl ?_
  refine ax_iconst (pc := 2) (v := 0) C dX6_bodyFor_2 (by decide) ?_
  refine ax_istore_3 (pc := 3) C dX6_bodyFor_3 rfl ?_
  refine ax_iload_3 (pc := 4) C dX6_bodyFor_4 ?_
  refine ax_bipush (pc := 5) (v := 6) C dX6_bodyFor_5 (by decide) ?_
  refine ax_icmp_ge (pc := 7) (tgt := 41) C dX6_bodyFor_7 (by decide) (fun z => False.elim (absurd z (by decide))) (fun _ => ?_)
  refine ax_iload_2 (pc := 10) C dX6_bodyFor_10 ?_
  refine ax_iconst (pc := 11) (v := 0) C dX6_bodyFor_11 (by decide) ?_
  refine ax_iconst (pc := 12) (v := 5) C dX6_bodyFor_12 (by decide) ?_
  refine ax_callSi (pc := 13) C (w_X6_isWithin F) kX6_isWithin mX6_59 dX6_bodyFor_13 (by decide) rfl rfl (Nat.le_of_ble_eq_true rfl) rfl ⟨Nat.le_refl _, Nat.le_refl _⟩ ?_
  refine ax_if_eq (pc := 16) (tgt := 41) C dX6_bodyFor_16 (by decide) (fun z => False.elim (ax_beq z (by decide))) (fun _ => ?_)
  refine ax_aload_0 (pc := 19) C dX6_bodyFor_19 ?_
  refine ax_iload_2 (pc := 20) C dX6_bodyFor_20 ?_
  refine ax_sta (pc := 21) C hs (w := 14) 5 (by decide) rfl rfl dX6_bodyFor_21 ?_
  refine ax_if_eq (pc := 22) (tgt := 29) C dX6_bodyFor_22 (by decide) (fun z => False.elim (absurd z (by decide))) (fun _ => ?_)
  refine ax_aload_0 (pc := 25) C dX6_bodyFor_25 ?_
  refine ax_iload_2 (pc := 26) C dX6_bodyFor_26 ?_
  refine ax_sta (pc := 27) C hs (w := 14) 5 (by decide) rfl rfl dX6_bodyFor_27 ?_
  exact ax_ir (pc := 28) C rfl dX6_bodyFor_28 rfl rfl

set_option maxRecDepth 20000 in
set_option maxHeartbeats 4000000 in
theorem w_X6_bodyFor_2_1 {Y : ax_Y} {ad : Nat → Nat} (F : ax_F Y) {l : Launch} {σ : ax_Z} {a : Nat} (hs : ax_St Y 2 a) : ax_m Y ad l iX6_bodyFor 1 σ [.ref a, .int 1] (some (.int 21)) σ := by
  obtain ⟨a0, hS0⟩ := ax_St_0 F
  refine ax_m.of F kX6_bodyFor.1 [some (.ref a), some (.int (1)), none, none] rfl (Nat.le_of_ble_eq_true rfl) (fun x C => ?_)
  refine ax_iload_1 (pc := 0) C dX6_bodyFor_0 ?_
  refine ax_istore_2 (pc := 1) C dX6_bodyFor_1 rfl ?_
  refine ax_iconst (pc := 2) (v := 0) C dX6_bodyFor_2 (by decide) ?_
  refine ax_istore_3 (pc := 3) C dX6_bodyFor_3 rfl ?_
  refine ax_iload_3 (pc := 4) C dX6_bodyFor_4 ?_
  refine ax_bipush (pc := 5) (v := 6) C dX6_bodyFor_5 (by decide) ?_
  refine ax_icmp_ge (pc := 7) (tgt := 41) C dX6_bodyFor_7 (by decide) (fun z => False.elim (absurd z (by decide))) (fun _ => ?_)
  refine ax_iload_2 (pc := 10) C dX6_bodyFor_10 ?_
  refine ax_iconst (pc := 11) (v := 0) C dX6_bodyFor_11 (by decide) ?_
  refine ax_iconst (pc := 12) (v := 5) C dX6_bodyFor_12 (by decide) ?_
  refine ax_callSi (pc := 13) C (w_X6_isWithin F) kX6_isWithin mX6_59 dX6_bodyFor_13 (by decide) rfl rfl (Nat.le_of_ble_eq_true rfl) rfl ⟨Nat.le_refl _, Nat.le_refl _⟩ ?_
  refine ax_if_eq (pc := 16) (tgt := 41) C dX6_bodyFor_16 (by decide) (fun z => False.elim (ax_beq z (by decide))) (fun _ => ?_)
  refine ax_aload_0 (pc := 19) C dX6_bodyFor_19 ?_
  refine ax_iload_2 (pc := 20) C dX6_bodyFor_20 ?_
  refine ax_sta (pc := 21) C hs (w := 21) 1 (by decide) rfl rfl dX6_bodyFor_21 ?_
  refine ax_if_eq (pc := 22) (tgt := 29) C dX6_bodyFor_22 (by decide) (fun z => False.elim (absurd z (by decide))) (fun _ => ?_)
  refine ax_aload_0 (pc := 25) C dX6_bodyFor_25 ?_
  refine ax_iload_2 (pc := 26) C dX6_bodyFor_26 ?_
  refine ax_sta (pc := 27) C hs (w := 21) 1 (by decide) rfl rfl dX6_bodyFor_27 ?_
  exact ax_ir (pc := 28) C rfl dX6_bodyFor_28 rfl rfl

set_option maxRecDepth 20000 in
set_option maxHeartbeats 4000000 in
theorem w_X6_bodyFor_2_2 {Y : ax_Y} {ad : Nat → Nat} (F : ax_F Y) {l : Launch} {σ : ax_Z} {a : Nat} (hs : ax_St Y 2 a) : ax_m Y ad l iX6_bodyFor 1 σ [.ref a, .int 2] (some (.int 24)) σ := by
  obtain ⟨a0, hS0⟩ := ax_St_0 F
  refine ax_m.of F kX6_bodyFor.1 [some (.ref a), some (.int (2)), none, none] rfl (Nat.le_of_ble_eq_true rfl) (fun x C => ?_)
  refine ax_iload_1 (pc := 0) C dX6_bodyFor_0 ?_
  refine ax_istore_2 (pc := 1) C dX6_bodyFor_1 rfl ?_
  refine ax_iconst (pc := 2) (v := 0) C dX6_bodyFor_2 (by decide) ?_
  refine ax_istore_3 (pc := 3) C dX6_bodyFor_3 rfl ?_
  refine ax_iload_3 (pc := 4) C dX6_bodyFor_4 ?_
  refine ax_bipush (pc := 5) (v := 6) C dX6_bodyFor_5 (by decide) ?_
  refine ax_icmp_ge (pc := 7) (tgt := 41) C dX6_bodyFor_7 (by decide) (fun z => False.elim (absurd z (by decide))) (fun _ => ?_)
  refine ax_iload_2 (pc := 10) C dX6_bodyFor_10 ?_
  refine ax_iconst (pc := 11) (v := 0) C dX6_bodyFor_11 (by decide) ?_
  refine ax_iconst (pc := 12) (v := 5) C dX6_bodyFor_12 (by decide) ?_
  refine ax_callSi (pc := 13) C (w_X6_isWithin F) kX6_isWithin mX6_59 dX6_bodyFor_13 (by decide) rfl rfl (Nat.le_of_ble_eq_true rfl) rfl ⟨Nat.le_refl _, Nat.le_refl _⟩ ?_
  refine ax_if_eq (pc := 16) (tgt := 41) C dX6_bodyFor_16 (by decide) (fun z => False.elim (ax_beq z (by decide))) (fun _ => ?_)
  refine ax_aload_0 (pc := 19) C dX6_bodyFor_19 ?_
  refine ax_iload_2 (pc := 20) C dX6_bodyFor_20 ?_
  refine ax_sta (pc := 21) C hs (w := 24) 2 (by decide) rfl rfl dX6_bodyFor_21 ?_
  refine ax_if_eq (pc := 22) (tgt := 29) C dX6_bodyFor_22 (by decide) (fun z => False.elim (absurd z (by decide))) (fun _ => ?_)
  refine ax_aload_0 (pc := 25) C dX6_bodyFor_25 ?_
  refine ax_iload_2 (pc := 26) C dX6_bodyFor_26 ?_
  refine ax_sta (pc := 27) C hs (w := 24) 2 (by decide) rfl rfl dX6_bodyFor_27 ?_
  exact ax_ir (pc := 28) C rfl dX6_bodyFor_28 rfl rfl

set_option maxRecDepth 20000 in
set_option maxHeartbeats 4000000 in
theorem w_X6_bodyFor_2_3 {Y : ax_Y} {ad : Nat → Nat} (F : ax_F Y) {l : Launch} {σ : ax_Z} {a : Nat} (hs : ax_St Y 2 a) : ax_m Y ad l iX6_bodyFor 1 σ [.ref a, .int 3] (some (.int 22)) σ := by
  obtain ⟨a0, hS0⟩ := ax_St_0 F
  refine ax_m.of F kX6_bodyFor.1 [some (.ref a), some (.int (3)), none, none] rfl (Nat.le_of_ble_eq_true rfl) (fun x C => ?_)
  refine ax_iload_1 (pc := 0) C dX6_bodyFor_0 ?_
  refine ax_istore_2 (pc := 1) C dX6_bodyFor_1 rfl ?_
  refine ax_iconst (pc := 2) (v := 0) C dX6_bodyFor_2 (by decide) ?_
  refine ax_istore_3 (pc := 3) C dX6_bodyFor_3 rfl ?_
  refine ax_iload_3 (pc := 4) C dX6_bodyFor_4 ?_
  refine ax_bipush (pc := 5) (v := 6) C dX6_bodyFor_5 (by decide) ?_
  refine ax_icmp_ge (pc := 7) (tgt := 41) C dX6_bodyFor_7 (by decide) (fun z => False.elim (absurd z (by decide))) (fun _ => ?_)
  refine ax_iload_2 (pc := 10) C dX6_bodyFor_10 ?_
  refine ax_iconst (pc := 11) (v := 0) C dX6_bodyFor_11 (by decide) ?_
  refine ax_iconst (pc := 12) (v := 5) C dX6_bodyFor_12 (by decide) ?_
  refine ax_callSi (pc := 13) C (w_X6_isWithin F) kX6_isWithin mX6_59 dX6_bodyFor_13 (by decide) rfl rfl (Nat.le_of_ble_eq_true rfl) rfl ⟨Nat.le_refl _, Nat.le_refl _⟩ ?_
  refine ax_if_eq (pc := 16) (tgt := 41) C dX6_bodyFor_16 (by decide) (fun z => False.elim (ax_beq z (by decide))) (fun _ => ?_)
  refine ax_aload_0 (pc := 19) C dX6_bodyFor_19 ?_
  refine ax_iload_2 (pc := 20) C dX6_bodyFor_20 ?_
  refine ax_sta (pc := 21) C hs (w := 22) 3 (by decide) rfl rfl dX6_bodyFor_21 ?_
  refine ax_if_eq (pc := 22) (tgt := 29) C dX6_bodyFor_22 (by decide) (fun z => False.elim (absurd z (by decide))) (fun _ => ?_)
  refine ax_aload_0 (pc := 25) C dX6_bodyFor_25 ?_
  refine ax_iload_2 (pc := 26) C dX6_bodyFor_26 ?_
  refine ax_sta (pc := 27) C hs (w := 22) 3 (by decide) rfl rfl dX6_bodyFor_27 ?_
  exact ax_ir (pc := 28) C rfl dX6_bodyFor_28 rfl rfl

set_option maxRecDepth 20000 in
set_option maxHeartbeats 4000000 in
theorem w_X6_bodyFor_2_4 {Y : ax_Y} {ad : Nat → Nat} (F : ax_F Y) {l : Launch} {σ : ax_Z} {a : Nat} (hs : ax_St Y 2 a) : ax_m Y ad l iX6_bodyFor 1 σ [.ref a, .int 4] (some (.int 23)) σ := by
  obtain ⟨a0, hS0⟩ := ax_St_0 F
  refine ax_m.of F kX6_bodyFor.1 [some (.ref a), some (.int (4)), none, none] rfl (Nat.le_of_ble_eq_true rfl) (fun x C => ?_)
  refine ax_iload_1 (pc := 0) C dX6_bodyFor_0 ?_
  refine ax_istore_2 (pc := 1) C dX6_bodyFor_1 rfl ?_
  refine ax_iconst (pc := 2) (v := 0) C dX6_bodyFor_2 (by decide) ?_
  refine ax_istore_3 (pc := 3) C dX6_bodyFor_3 rfl ?_
  refine ax_iload_3 (pc := 4) C dX6_bodyFor_4 ?_
  refine ax_bipush (pc := 5) (v := 6) C dX6_bodyFor_5 (by decide) ?_
  refine ax_icmp_ge (pc := 7) (tgt := 41) C dX6_bodyFor_7 (by decide) (fun z => False.elim (absurd z (by decide))) (fun _ => ?_)
  refine ax_iload_2 (pc := 10) C dX6_bodyFor_10 ?_
  refine ax_iconst (pc := 11) (v := 0) C dX6_bodyFor_11 (by decide) ?_
  refine ax_iconst (pc := 12) (v := 5) C dX6_bodyFor_12 (by decide) ?_
  refine ax_callSi (pc := 13) C (w_X6_isWithin F) kX6_isWithin mX6_59 dX6_bodyFor_13 (by decide) rfl rfl (Nat.le_of_ble_eq_true rfl) rfl ⟨Nat.le_refl _, Nat.le_refl _⟩ ?_
  refine ax_if_eq (pc := 16) (tgt := 41) C dX6_bodyFor_16 (by decide) (fun z => False.elim (ax_beq z (by decide))) (fun _ => ?_)
  refine ax_aload_0 (pc := 19) C dX6_bodyFor_19 ?_
  refine ax_iload_2 (pc := 20) C dX6_bodyFor_20 ?_
  refine ax_sta (pc := 21) C hs (w := 23) 4 (by decide) rfl rfl dX6_bodyFor_21 ?_
  refine ax_if_eq (pc := 22) (tgt := 29) C dX6_bodyFor_22 (by decide) (fun z => False.elim (absurd z (by decide))) (fun _ => ?_)
  refine ax_aload_0 (pc := 25) C dX6_bodyFor_25 ?_
  refine ax_iload_2 (pc := 26) C dX6_bodyFor_26 ?_
  refine ax_sta (pc := 27) C hs (w := 23) 4 (by decide) rfl rfl dX6_bodyFor_27 ?_
  exact ax_ir (pc := 28) C rfl dX6_bodyFor_28 rfl rfl

set_option maxRecDepth 20000 in
set_option maxHeartbeats 4000000 in
theorem w_X6_bodyFor_2_5 {Y : ax_Y} {ad : Nat → Nat} (F : ax_F Y) {l : Launch} {σ : ax_Z} {a : Nat} (hs : ax_St Y 2 a) : ax_m Y ad l iX6_bodyFor 1 σ [.ref a, .int 5] (some (.int 23)) σ := by
  obtain ⟨a0, hS0⟩ := ax_St_0 F
  refine ax_m.of F kX6_bodyFor.1 [some (.ref a), some (.int (5)), none, none] rfl (Nat.le_of_ble_eq_true rfl) (fun x C => ?_)
  refine ax_iload_1 (pc := 0) C dX6_bodyFor_0 ?_
  refine ax_istore_2 (pc := 1) C dX6_bodyFor_1 rfl ?_
  refine ax_iconst (pc := 2) (v := 0) C dX6_bodyFor_2 (by decide) ?_
  refine ax_istore_3 (pc := 3) C dX6_bodyFor_3 rfl ?_
  refine ax_iload_3 (pc := 4) C dX6_bodyFor_4 ?_
  refine ax_bipush (pc := 5) (v := 6) C dX6_bodyFor_5 (by decide) ?_
  refine ax_icmp_ge (pc := 7) (tgt := 41) C dX6_bodyFor_7 (by decide) (fun z => False.elim (absurd z (by decide))) (fun _ => ?_)
  refine ax_iload_2 (pc := 10) C dX6_bodyFor_10 ?_
  refine ax_iconst (pc := 11) (v := 0) C dX6_bodyFor_11 (by decide) ?_
  refine ax_iconst (pc := 12) (v := 5) C dX6_bodyFor_12 (by decide) ?_
  refine ax_callSi (pc := 13) C (w_X6_isWithin F) kX6_isWithin mX6_59 dX6_bodyFor_13 (by decide) rfl rfl (Nat.le_of_ble_eq_true rfl) rfl ⟨Nat.le_refl _, Nat.le_refl _⟩ ?_
  refine ax_if_eq (pc := 16) (tgt := 41) C dX6_bodyFor_16 (by decide) (fun z => False.elim (ax_beq z (by decide))) (fun _ => ?_)
  refine ax_aload_0 (pc := 19) C dX6_bodyFor_19 ?_
  refine ax_iload_2 (pc := 20) C dX6_bodyFor_20 ?_
  refine ax_sta (pc := 21) C hs (w := 0) 5 (by decide) rfl rfl dX6_bodyFor_21 ?_
  refine ax_if_eq (pc := 22) (tgt := 29) C dX6_bodyFor_22 (by decide) (fun _ => ?_) (fun z => False.elim (absurd z (by decide)))
  refine ax_gets (pc := 29) C hS0 st_254 dX6_bodyFor_29 ?_
  refine ax_iload_2 (pc := 32) C dX6_bodyFor_32 ?_
  refine ax_sta (pc := 33) C hS0 (w := 4) 5 (by decide) rfl rfl dX6_bodyFor_33 ?_
  refine ax_istore_2 (pc := 34) C dX6_bodyFor_34 rfl ?_
  refine ax_iinc_3 (pc := 35) C dX6_bodyFor_35 (1) (by decide) rfl ?_
  refine ax_goto (pc := 38) (tgt := 4) C dX6_bodyFor_38 (by decide) ?_
  refine ax_iload_3 (pc := 4) C dX6_bodyFor_4 ?_
  refine ax_bipush (pc := 5) (v := 6) C dX6_bodyFor_5 (by decide) ?_
  refine ax_icmp_ge (pc := 7) (tgt := 41) C dX6_bodyFor_7 (by decide) (fun z => False.elim (absurd z (by decide))) (fun _ => ?_)
  refine ax_iload_2 (pc := 10) C dX6_bodyFor_10 ?_
  refine ax_iconst (pc := 11) (v := 0) C dX6_bodyFor_11 (by decide) ?_
  refine ax_iconst (pc := 12) (v := 5) C dX6_bodyFor_12 (by decide) ?_
  refine ax_callSi (pc := 13) C (w_X6_isWithin F) kX6_isWithin mX6_59 dX6_bodyFor_13 (by decide) rfl rfl (Nat.le_of_ble_eq_true rfl) rfl ⟨Nat.le_refl _, Nat.le_refl _⟩ ?_
  refine ax_if_eq (pc := 16) (tgt := 41) C dX6_bodyFor_16 (by decide) (fun z => False.elim (ax_beq z (by decide))) (fun _ => ?_)
  refine ax_aload_0 (pc := 19) C dX6_bodyFor_19 ?_
  refine ax_iload_2 (pc := 20) C dX6_bodyFor_20 ?_
  refine ax_sta (pc := 21) C hs (w := 23) 4 (by decide) rfl rfl dX6_bodyFor_21 ?_
  refine ax_if_eq (pc := 22) (tgt := 29) C dX6_bodyFor_22 (by decide) (fun z => False.elim (absurd z (by decide))) (fun _ => ?_)
  refine ax_aload_0 (pc := 25) C dX6_bodyFor_25 ?_
  refine ax_iload_2 (pc := 26) C dX6_bodyFor_26 ?_
  refine ax_sta (pc := 27) C hs (w := 23) 4 (by decide) rfl rfl dX6_bodyFor_27 ?_
  exact ax_ir (pc := 28) C rfl dX6_bodyFor_28 rfl rfl

set_option maxRecDepth 20000 in
set_option maxHeartbeats 4000000 in
theorem w_X6_isOfKind_1_0 {Y : ax_Y} {ad : Nat → Nat} (F : ax_F Y) {l : Launch} {σ : ax_Z} : ax_m Y ad l iX6_isOfKind 1 σ [.int 1, .int 0] (some (.int 1)) σ := by
  obtain ⟨a0, hS0⟩ := ax_St_0 F
  refine ax_m.of F kX6_isOfKind.1 [some (.int (1)), some (.int (0)), none, none] rfl (Nat.le_of_ble_eq_true rfl) (fun x C => ?_)
  refine ax_iload_0 (pc := 0) C dX6_isOfKind_0 ?_
  refine ax_istore_2 (pc := 1) C dX6_isOfKind_1 rfl ?_
  refine ax_iconst (pc := 2) (v := 0) C dX6_isOfKind_2 (by decide) ?_
  refine ax_istore_3 (pc := 3) C dX6_isOfKind_3 rfl ?_
  refine ax_iload_3 (pc := 4) C dX6_isOfKind_4 ?_
  refine ax_bipush (pc := 5) (v := 6) C dX6_isOfKind_5 (by decide) ?_
  refine ax_icmp_ge (pc := 7) (tgt := 36) C dX6_isOfKind_7 (by decide) (fun z => False.elim (absurd z (by decide))) (fun _ => ?_)
  refine ax_iload_2 (pc := 10) C dX6_isOfKind_10 ?_
  refine ax_iload_1 (pc := 11) C dX6_isOfKind_11 ?_
  refine ax_icmp_eq (pc := 12) (tgt := 36) C dX6_isOfKind_12 (by decide) (fun z => False.elim (absurd z (by decide))) (fun _ => ?_)
  refine ax_iload_2 (pc := 15) C dX6_isOfKind_15 ?_
  refine ax_iconst (pc := 16) (v := 0) C dX6_isOfKind_16 (by decide) ?_
  refine ax_iconst (pc := 17) (v := 5) C dX6_isOfKind_17 (by decide) ?_
  refine ax_callSi (pc := 18) C (w_X6_isWithin F) kX6_isWithin mX6_59 dX6_isOfKind_18 (by decide) rfl rfl (Nat.le_of_ble_eq_true rfl) rfl ⟨Nat.le_refl _, Nat.le_refl _⟩ ?_
  refine ax_if_eq (pc := 21) (tgt := 36) C dX6_isOfKind_21 (by decide) (fun z => False.elim (ax_beq z (by decide))) (fun _ => ?_)
  refine ax_gets (pc := 24) C hS0 st_254 dX6_isOfKind_24 ?_
  refine ax_iload_2 (pc := 27) C dX6_isOfKind_27 ?_
  refine ax_sta (pc := 28) C hS0 (w := 0) 1 (by decide) rfl rfl dX6_isOfKind_28 ?_
  refine ax_istore_2 (pc := 29) C dX6_isOfKind_29 rfl ?_
  refine ax_iinc_3 (pc := 30) C dX6_isOfKind_30 (1) (by decide) rfl ?_
  refine ax_goto (pc := 33) (tgt := 4) C dX6_isOfKind_33 (by decide) ?_
  refine ax_iload_3 (pc := 4) C dX6_isOfKind_4 ?_
  refine ax_bipush (pc := 5) (v := 6) C dX6_isOfKind_5 (by decide) ?_
  refine ax_icmp_ge (pc := 7) (tgt := 36) C dX6_isOfKind_7 (by decide) (fun z => False.elim (absurd z (by decide))) (fun _ => ?_)
  refine ax_iload_2 (pc := 10) C dX6_isOfKind_10 ?_
  refine ax_iload_1 (pc := 11) C dX6_isOfKind_11 ?_
  refine ax_icmp_eq (pc := 12) (tgt := 36) C dX6_isOfKind_12 (by decide) (fun _ => ?_) (fun z => False.elim (absurd z (by decide)))
  refine ax_iload_2 (pc := 36) C dX6_isOfKind_36 ?_
  refine ax_iload_1 (pc := 37) C dX6_isOfKind_37 ?_
  refine ax_icmp_ne (pc := 38) (tgt := 45) C dX6_isOfKind_38 (by decide) (fun z => False.elim (absurd z (by decide))) (fun _ => ?_)
  refine ax_iconst (pc := 41) (v := 1) C dX6_isOfKind_41 (by decide) ?_
  refine ax_goto (pc := 42) (tgt := 46) C dX6_isOfKind_42 (by decide) ?_
  exact ax_zr (pc := 46) C rfl rfl dX6_isOfKind_46 rfl rfl

set_option maxRecDepth 20000 in
set_option maxHeartbeats 4000000 in
theorem w_X6_isOfKind_1_1 {Y : ax_Y} {ad : Nat → Nat} (F : ax_F Y) {l : Launch} {σ : ax_Z} : ax_m Y ad l iX6_isOfKind 1 σ [.int 1, .int 1] (some (.int 1)) σ := by
  obtain ⟨a0, hS0⟩ := ax_St_0 F
  refine ax_m.of F kX6_isOfKind.1 [some (.int (1)), some (.int (1)), none, none] rfl (Nat.le_of_ble_eq_true rfl) (fun x C => ?_)
  refine ax_iload_0 (pc := 0) C dX6_isOfKind_0 ?_
  refine ax_istore_2 (pc := 1) C dX6_isOfKind_1 rfl ?_
  refine ax_iconst (pc := 2) (v := 0) C dX6_isOfKind_2 (by decide) ?_
  refine ax_istore_3 (pc := 3) C dX6_isOfKind_3 rfl ?_
  refine ax_iload_3 (pc := 4) C dX6_isOfKind_4 ?_
  refine ax_bipush (pc := 5) (v := 6) C dX6_isOfKind_5 (by decide) ?_
  refine ax_icmp_ge (pc := 7) (tgt := 36) C dX6_isOfKind_7 (by decide) (fun z => False.elim (absurd z (by decide))) (fun _ => ?_)
  refine ax_iload_2 (pc := 10) C dX6_isOfKind_10 ?_
  refine ax_iload_1 (pc := 11) C dX6_isOfKind_11 ?_
  refine ax_icmp_eq (pc := 12) (tgt := 36) C dX6_isOfKind_12 (by decide) (fun _ => ?_) (fun z => False.elim (absurd z (by decide)))
  refine ax_iload_2 (pc := 36) C dX6_isOfKind_36 ?_
  refine ax_iload_1 (pc := 37) C dX6_isOfKind_37 ?_
  refine ax_icmp_ne (pc := 38) (tgt := 45) C dX6_isOfKind_38 (by decide) (fun z => False.elim (absurd z (by decide))) (fun _ => ?_)
  refine ax_iconst (pc := 41) (v := 1) C dX6_isOfKind_41 (by decide) ?_
  refine ax_goto (pc := 42) (tgt := 46) C dX6_isOfKind_42 (by decide) ?_
  exact ax_zr (pc := 46) C rfl rfl dX6_isOfKind_46 rfl rfl

set_option maxRecDepth 20000 in
set_option maxHeartbeats 4000000 in
theorem w_X6_isOfKind_1_2 {Y : ax_Y} {ad : Nat → Nat} (F : ax_F Y) {l : Launch} {σ : ax_Z} : ax_m Y ad l iX6_isOfKind 1 σ [.int 1, .int 2] (some (.int 0)) σ := by
  obtain ⟨a0, hS0⟩ := ax_St_0 F
  refine ax_m.of F kX6_isOfKind.1 [some (.int (1)), some (.int (2)), none, none] rfl (Nat.le_of_ble_eq_true rfl) (fun x C => ?_)
  refine ax_iload_0 (pc := 0) C dX6_isOfKind_0 ?_
  refine ax_istore_2 (pc := 1) C dX6_isOfKind_1 rfl ?_
  refine ax_iconst (pc := 2) (v := 0) C dX6_isOfKind_2 (by decide) ?_
  refine ax_istore_3 (pc := 3) C dX6_isOfKind_3 rfl ?_
  refine ax_iload_3 (pc := 4) C dX6_isOfKind_4 ?_
  refine ax_bipush (pc := 5) (v := 6) C dX6_isOfKind_5 (by decide) ?_
  refine ax_icmp_ge (pc := 7) (tgt := 36) C dX6_isOfKind_7 (by decide) (fun z => False.elim (absurd z (by decide))) (fun _ => ?_)
  refine ax_iload_2 (pc := 10) C dX6_isOfKind_10 ?_
  refine ax_iload_1 (pc := 11) C dX6_isOfKind_11 ?_
  refine ax_icmp_eq (pc := 12) (tgt := 36) C dX6_isOfKind_12 (by decide) (fun z => False.elim (absurd z (by decide))) (fun _ => ?_)
  refine ax_iload_2 (pc := 15) C dX6_isOfKind_15 ?_
  refine ax_iconst (pc := 16) (v := 0) C dX6_isOfKind_16 (by decide) ?_
  refine ax_iconst (pc := 17) (v := 5) C dX6_isOfKind_17 (by decide) ?_
  refine ax_callSi (pc := 18) C (w_X6_isWithin F) kX6_isWithin mX6_59 dX6_isOfKind_18 (by decide) rfl rfl (Nat.le_of_ble_eq_true rfl) rfl ⟨Nat.le_refl _, Nat.le_refl _⟩ ?_
  refine ax_if_eq (pc := 21) (tgt := 36) C dX6_isOfKind_21 (by decide) (fun z => False.elim (ax_beq z (by decide))) (fun _ => ?_)
  refine ax_gets (pc := 24) C hS0 st_254 dX6_isOfKind_24 ?_
  refine ax_iload_2 (pc := 27) C dX6_isOfKind_27 ?_
  refine ax_sta (pc := 28) C hS0 (w := 0) 1 (by decide) rfl rfl dX6_isOfKind_28 ?_
  refine ax_istore_2 (pc := 29) C dX6_isOfKind_29 rfl ?_
  refine ax_iinc_3 (pc := 30) C dX6_isOfKind_30 (1) (by decide) rfl ?_
  refine ax_goto (pc := 33) (tgt := 4) C dX6_isOfKind_33 (by decide) ?_
  refine ax_iload_3 (pc := 4) C dX6_isOfKind_4 ?_
  refine ax_bipush (pc := 5) (v := 6) C dX6_isOfKind_5 (by decide) ?_
  refine ax_icmp_ge (pc := 7) (tgt := 36) C dX6_isOfKind_7 (by decide) (fun z => False.elim (absurd z (by decide))) (fun _ => ?_)
  refine ax_iload_2 (pc := 10) C dX6_isOfKind_10 ?_
  refine ax_iload_1 (pc := 11) C dX6_isOfKind_11 ?_
  refine ax_icmp_eq (pc := 12) (tgt := 36) C dX6_isOfKind_12 (by decide) (fun z => False.elim (absurd z (by decide))) (fun _ => ?_)
  refine ax_iload_2 (pc := 15) C dX6_isOfKind_15 ?_
  refine ax_iconst (pc := 16) (v := 0) C dX6_isOfKind_16 (by decide) ?_
  refine ax_iconst (pc := 17) (v := 5) C dX6_isOfKind_17 (by decide) ?_
  refine ax_callSi (pc := 18) C (w_X6_isWithin F) kX6_isWithin mX6_59 dX6_isOfKind_18 (by decide) rfl rfl (Nat.le_of_ble_eq_true rfl) rfl ⟨Nat.le_refl _, Nat.le_refl _⟩ ?_
  refine ax_if_eq (pc := 21) (tgt := 36) C dX6_isOfKind_21 (by decide) (fun z => False.elim (ax_beq z (by decide))) (fun _ => ?_)
  refine ax_gets (pc := 24) C hS0 st_254 dX6_isOfKind_24 ?_
  refine ax_iload_2 (pc := 27) C dX6_isOfKind_27 ?_
  refine ax_sta (pc := 28) C hS0 (w := 0) 0 (by decide) rfl rfl dX6_isOfKind_28 ?_
  refine ax_istore_2 (pc := 29) C dX6_isOfKind_29 rfl ?_
  refine ax_iinc_3 (pc := 30) C dX6_isOfKind_30 (1) (by decide) rfl ?_
  refine ax_goto (pc := 33) (tgt := 4) C dX6_isOfKind_33 (by decide) ?_
  refine ax_iload_3 (pc := 4) C dX6_isOfKind_4 ?_
  refine ax_bipush (pc := 5) (v := 6) C dX6_isOfKind_5 (by decide) ?_
  refine ax_icmp_ge (pc := 7) (tgt := 36) C dX6_isOfKind_7 (by decide) (fun z => False.elim (absurd z (by decide))) (fun _ => ?_)
  refine ax_iload_2 (pc := 10) C dX6_isOfKind_10 ?_
  refine ax_iload_1 (pc := 11) C dX6_isOfKind_11 ?_
  refine ax_icmp_eq (pc := 12) (tgt := 36) C dX6_isOfKind_12 (by decide) (fun z => False.elim (absurd z (by decide))) (fun _ => ?_)
  refine ax_iload_2 (pc := 15) C dX6_isOfKind_15 ?_
  refine ax_iconst (pc := 16) (v := 0) C dX6_isOfKind_16 (by decide) ?_
  refine ax_iconst (pc := 17) (v := 5) C dX6_isOfKind_17 (by decide) ?_
  refine ax_callSi (pc := 18) C (w_X6_isWithin F) kX6_isWithin mX6_59 dX6_isOfKind_18 (by decide) rfl rfl (Nat.le_of_ble_eq_true rfl) rfl ⟨Nat.le_refl _, Nat.le_refl _⟩ ?_
  refine ax_if_eq (pc := 21) (tgt := 36) C dX6_isOfKind_21 (by decide) (fun z => False.elim (ax_beq z (by decide))) (fun _ => ?_)
  refine ax_gets (pc := 24) C hS0 st_254 dX6_isOfKind_24 ?_
  refine ax_iload_2 (pc := 27) C dX6_isOfKind_27 ?_
  refine ax_sta (pc := 28) C hS0 (w := 0) 0 (by decide) rfl rfl dX6_isOfKind_28 ?_
  refine ax_istore_2 (pc := 29) C dX6_isOfKind_29 rfl ?_
  refine ax_iinc_3 (pc := 30) C dX6_isOfKind_30 (1) (by decide) rfl ?_
  refine ax_goto (pc := 33) (tgt := 4) C dX6_isOfKind_33 (by decide) ?_
  refine ax_iload_3 (pc := 4) C dX6_isOfKind_4 ?_
  refine ax_bipush (pc := 5) (v := 6) C dX6_isOfKind_5 (by decide) ?_
  refine ax_icmp_ge (pc := 7) (tgt := 36) C dX6_isOfKind_7 (by decide) (fun z => False.elim (absurd z (by decide))) (fun _ => ?_)
  refine ax_iload_2 (pc := 10) C dX6_isOfKind_10 ?_
  refine ax_iload_1 (pc := 11) C dX6_isOfKind_11 ?_
  refine ax_icmp_eq (pc := 12) (tgt := 36) C dX6_isOfKind_12 (by decide) (fun z => False.elim (absurd z (by decide))) (fun _ => ?_)
  refine ax_iload_2 (pc := 15) C dX6_isOfKind_15 ?_
  refine ax_iconst (pc := 16) (v := 0) C dX6_isOfKind_16 (by decide) ?_
  refine ax_iconst (pc := 17) (v := 5) C dX6_isOfKind_17 (by decide) ?_
  refine ax_callSi (pc := 18) C (w_X6_isWithin F) kX6_isWithin mX6_59 dX6_isOfKind_18 (by decide) rfl rfl (Nat.le_of_ble_eq_true rfl) rfl ⟨Nat.le_refl _, Nat.le_refl _⟩ ?_
  refine ax_if_eq (pc := 21) (tgt := 36) C dX6_isOfKind_21 (by decide) (fun z => False.elim (ax_beq z (by decide))) (fun _ => ?_)
  refine ax_gets (pc := 24) C hS0 st_254 dX6_isOfKind_24 ?_
  refine ax_iload_2 (pc := 27) C dX6_isOfKind_27 ?_
  refine ax_sta (pc := 28) C hS0 (w := 0) 0 (by decide) rfl rfl dX6_isOfKind_28 ?_
  refine ax_istore_2 (pc := 29) C dX6_isOfKind_29 rfl ?_
  refine ax_iinc_3 (pc := 30) C dX6_isOfKind_30 (1) (by decide) rfl ?_
  refine ax_goto (pc := 33) (tgt := 4) C dX6_isOfKind_33 (by decide) ?_
  refine ax_iload_3 (pc := 4) C dX6_isOfKind_4 ?_
  refine ax_bipush (pc := 5) (v := 6) C dX6_isOfKind_5 (by decide) ?_
  refine ax_icmp_ge (pc := 7) (tgt := 36) C dX6_isOfKind_7 (by decide) (fun z => False.elim (absurd z (by decide))) (fun _ => ?_)
  refine ax_iload_2 (pc := 10) C dX6_isOfKind_10 ?_
  refine ax_iload_1 (pc := 11) C dX6_isOfKind_11 ?_
  refine ax_icmp_eq (pc := 12) (tgt := 36) C dX6_isOfKind_12 (by decide) (fun z => False.elim (absurd z (by decide))) (fun _ => ?_)
  refine ax_iload_2 (pc := 15) C dX6_isOfKind_15 ?_
  refine ax_iconst (pc := 16) (v := 0) C dX6_isOfKind_16 (by decide) ?_
  refine ax_iconst (pc := 17) (v := 5) C dX6_isOfKind_17 (by decide) ?_
  refine ax_callSi (pc := 18) C (w_X6_isWithin F) kX6_isWithin mX6_59 dX6_isOfKind_18 (by decide) rfl rfl (Nat.le_of_ble_eq_true rfl) rfl ⟨Nat.le_refl _, Nat.le_refl _⟩ ?_
  refine ax_if_eq (pc := 21) (tgt := 36) C dX6_isOfKind_21 (by decide) (fun z => False.elim (ax_beq z (by decide))) (fun _ => ?_)
  refine ax_gets (pc := 24) C hS0 st_254 dX6_isOfKind_24 ?_
  refine ax_iload_2 (pc := 27) C dX6_isOfKind_27 ?_
  refine ax_sta (pc := 28) C hS0 (w := 0) 0 (by decide) rfl rfl dX6_isOfKind_28 ?_
  refine ax_istore_2 (pc := 29) C dX6_isOfKind_29 rfl ?_
  refine ax_iinc_3 (pc := 30) C dX6_isOfKind_30 (1) (by decide) rfl ?_
  refine ax_goto (pc := 33) (tgt := 4) C dX6_isOfKind_33 (by decide) ?_
  refine ax_iload_3 (pc := 4) C dX6_isOfKind_4 ?_
  refine ax_bipush (pc := 5) (v := 6) C dX6_isOfKind_5 (by decide) ?_
  refine ax_icmp_ge (pc := 7) (tgt := 36) C dX6_isOfKind_7 (by decide) (fun z => False.elim (absurd z (by decide))) (fun _ => ?_)
  refine ax_iload_2 (pc := 10) C dX6_isOfKind_10 ?_
  refine ax_iload_1 (pc := 11) C dX6_isOfKind_11 ?_
  refine ax_icmp_eq (pc := 12) (tgt := 36) C dX6_isOfKind_12 (by decide) (fun z => False.elim (absurd z (by decide))) (fun _ => ?_)
  refine ax_iload_2 (pc := 15) C dX6_isOfKind_15 ?_
  refine ax_iconst (pc := 16) (v := 0) C dX6_isOfKind_16 (by decide) ?_
  refine ax_iconst (pc := 17) (v := 5) C dX6_isOfKind_17 (by decide) ?_
  refine ax_callSi (pc := 18) C (w_X6_isWithin F) kX6_isWithin mX6_59 dX6_isOfKind_18 (by decide) rfl rfl (Nat.le_of_ble_eq_true rfl) rfl ⟨Nat.le_refl _, Nat.le_refl _⟩ ?_
  refine ax_if_eq (pc := 21) (tgt := 36) C dX6_isOfKind_21 (by decide) (fun z => False.elim (ax_beq z (by decide))) (fun _ => ?_)
  refine ax_gets (pc := 24) C hS0 st_254 dX6_isOfKind_24 ?_
  refine ax_iload_2 (pc := 27) C dX6_isOfKind_27 ?_
  refine ax_sta (pc := 28) C hS0 (w := 0) 0 (by decide) rfl rfl dX6_isOfKind_28 ?_
  refine ax_istore_2 (pc := 29) C dX6_isOfKind_29 rfl ?_
  refine ax_iinc_3 (pc := 30) C dX6_isOfKind_30 (1) (by decide) rfl ?_
  refine ax_goto (pc := 33) (tgt := 4) C dX6_isOfKind_33 (by decide) ?_
  refine ax_iload_3 (pc := 4) C dX6_isOfKind_4 ?_
  refine ax_bipush (pc := 5) (v := 6) C dX6_isOfKind_5 (by decide) ?_
  refine ax_icmp_ge (pc := 7) (tgt := 36) C dX6_isOfKind_7 (by decide) (fun _ => ?_) (fun z => False.elim (absurd z (by decide)))
  refine ax_iload_2 (pc := 36) C dX6_isOfKind_36 ?_
  refine ax_iload_1 (pc := 37) C dX6_isOfKind_37 ?_
  refine ax_icmp_ne (pc := 38) (tgt := 45) C dX6_isOfKind_38 (by decide) (fun _ => ?_) (fun z => False.elim (absurd z (by decide)))
  refine ax_iconst (pc := 45) (v := 0) C dX6_isOfKind_45 (by decide) ?_
  exact ax_zr (pc := 46) C rfl rfl dX6_isOfKind_46 rfl rfl

set_option maxRecDepth 20000 in
set_option maxHeartbeats 4000000 in
theorem w_X6_isOfKind_1_3 {Y : ax_Y} {ad : Nat → Nat} (F : ax_F Y) {l : Launch} {σ : ax_Z} : ax_m Y ad l iX6_isOfKind 1 σ [.int 1, .int 3] (some (.int 0)) σ := by
  obtain ⟨a0, hS0⟩ := ax_St_0 F
  refine ax_m.of F kX6_isOfKind.1 [some (.int (1)), some (.int (3)), none, none] rfl (Nat.le_of_ble_eq_true rfl) (fun x C => ?_)
  refine ax_iload_0 (pc := 0) C dX6_isOfKind_0 ?_
  refine ax_istore_2 (pc := 1) C dX6_isOfKind_1 rfl ?_
  refine ax_iconst (pc := 2) (v := 0) C dX6_isOfKind_2 (by decide) ?_
  refine ax_istore_3 (pc := 3) C dX6_isOfKind_3 rfl ?_
  refine ax_iload_3 (pc := 4) C dX6_isOfKind_4 ?_
  refine ax_bipush (pc := 5) (v := 6) C dX6_isOfKind_5 (by decide) ?_
  refine ax_icmp_ge (pc := 7) (tgt := 36) C dX6_isOfKind_7 (by decide) (fun z => False.elim (absurd z (by decide))) (fun _ => ?_)
  refine ax_iload_2 (pc := 10) C dX6_isOfKind_10 ?_
  refine ax_iload_1 (pc := 11) C dX6_isOfKind_11 ?_
  refine ax_icmp_eq (pc := 12) (tgt := 36) C dX6_isOfKind_12 (by decide) (fun z => False.elim (absurd z (by decide))) (fun _ => ?_)
  refine ax_iload_2 (pc := 15) C dX6_isOfKind_15 ?_
  refine ax_iconst (pc := 16) (v := 0) C dX6_isOfKind_16 (by decide) ?_
  refine ax_iconst (pc := 17) (v := 5) C dX6_isOfKind_17 (by decide) ?_
  refine ax_callSi (pc := 18) C (w_X6_isWithin F) kX6_isWithin mX6_59 dX6_isOfKind_18 (by decide) rfl rfl (Nat.le_of_ble_eq_true rfl) rfl ⟨Nat.le_refl _, Nat.le_refl _⟩ ?_
  refine ax_if_eq (pc := 21) (tgt := 36) C dX6_isOfKind_21 (by decide) (fun z => False.elim (ax_beq z (by decide))) (fun _ => ?_)
  refine ax_gets (pc := 24) C hS0 st_254 dX6_isOfKind_24 ?_
  refine ax_iload_2 (pc := 27) C dX6_isOfKind_27 ?_
  refine ax_sta (pc := 28) C hS0 (w := 0) 1 (by decide) rfl rfl dX6_isOfKind_28 ?_
  refine ax_istore_2 (pc := 29) C dX6_isOfKind_29 rfl ?_
  refine ax_iinc_3 (pc := 30) C dX6_isOfKind_30 (1) (by decide) rfl ?_
  refine ax_goto (pc := 33) (tgt := 4) C dX6_isOfKind_33 (by decide) ?_
  refine ax_iload_3 (pc := 4) C dX6_isOfKind_4 ?_
  refine ax_bipush (pc := 5) (v := 6) C dX6_isOfKind_5 (by decide) ?_
  refine ax_icmp_ge (pc := 7) (tgt := 36) C dX6_isOfKind_7 (by decide) (fun z => False.elim (absurd z (by decide))) (fun _ => ?_)
  refine ax_iload_2 (pc := 10) C dX6_isOfKind_10 ?_
  refine ax_iload_1 (pc := 11) C dX6_isOfKind_11 ?_
  refine ax_icmp_eq (pc := 12) (tgt := 36) C dX6_isOfKind_12 (by decide) (fun z => False.elim (absurd z (by decide))) (fun _ => ?_)
  refine ax_iload_2 (pc := 15) C dX6_isOfKind_15 ?_
  refine ax_iconst (pc := 16) (v := 0) C dX6_isOfKind_16 (by decide) ?_
  refine ax_iconst (pc := 17) (v := 5) C dX6_isOfKind_17 (by decide) ?_
  refine ax_callSi (pc := 18) C (w_X6_isWithin F) kX6_isWithin mX6_59 dX6_isOfKind_18 (by decide) rfl rfl (Nat.le_of_ble_eq_true rfl) rfl ⟨Nat.le_refl _, Nat.le_refl _⟩ ?_
  refine ax_if_eq (pc := 21) (tgt := 36) C dX6_isOfKind_21 (by decide) (fun z => False.elim (ax_beq z (by decide))) (fun _ => ?_)
  refine ax_gets (pc := 24) C hS0 st_254 dX6_isOfKind_24 ?_
  refine ax_iload_2 (pc := 27) C dX6_isOfKind_27 ?_
  refine ax_sta (pc := 28) C hS0 (w := 0) 0 (by decide) rfl rfl dX6_isOfKind_28 ?_
  refine ax_istore_2 (pc := 29) C dX6_isOfKind_29 rfl ?_
  refine ax_iinc_3 (pc := 30) C dX6_isOfKind_30 (1) (by decide) rfl ?_
  refine ax_goto (pc := 33) (tgt := 4) C dX6_isOfKind_33 (by decide) ?_
  refine ax_iload_3 (pc := 4) C dX6_isOfKind_4 ?_
  refine ax_bipush (pc := 5) (v := 6) C dX6_isOfKind_5 (by decide) ?_
  refine ax_icmp_ge (pc := 7) (tgt := 36) C dX6_isOfKind_7 (by decide) (fun z => False.elim (absurd z (by decide))) (fun _ => ?_)
  refine ax_iload_2 (pc := 10) C dX6_isOfKind_10 ?_
  refine ax_iload_1 (pc := 11) C dX6_isOfKind_11 ?_
  refine ax_icmp_eq (pc := 12) (tgt := 36) C dX6_isOfKind_12 (by decide) (fun z => False.elim (absurd z (by decide))) (fun _ => ?_)
  refine ax_iload_2 (pc := 15) C dX6_isOfKind_15 ?_
  refine ax_iconst (pc := 16) (v := 0) C dX6_isOfKind_16 (by decide) ?_
  refine ax_iconst (pc := 17) (v := 5) C dX6_isOfKind_17 (by decide) ?_
  refine ax_callSi (pc := 18) C (w_X6_isWithin F) kX6_isWithin mX6_59 dX6_isOfKind_18 (by decide) rfl rfl (Nat.le_of_ble_eq_true rfl) rfl ⟨Nat.le_refl _, Nat.le_refl _⟩ ?_
  refine ax_if_eq (pc := 21) (tgt := 36) C dX6_isOfKind_21 (by decide) (fun z => False.elim (ax_beq z (by decide))) (fun _ => ?_)
  refine ax_gets (pc := 24) C hS0 st_254 dX6_isOfKind_24 ?_
  refine ax_iload_2 (pc := 27) C dX6_isOfKind_27 ?_
  refine ax_sta (pc := 28) C hS0 (w := 0) 0 (by decide) rfl rfl dX6_isOfKind_28 ?_
  refine ax_istore_2 (pc := 29) C dX6_isOfKind_29 rfl ?_
  refine ax_iinc_3 (pc := 30) C dX6_isOfKind_30 (1) (by decide) rfl ?_
  refine ax_goto (pc := 33) (tgt := 4) C dX6_isOfKind_33 (by decide) ?_
  refine ax_iload_3 (pc := 4) C dX6_isOfKind_4 ?_
  refine ax_bipush (pc := 5) (v := 6) C dX6_isOfKind_5 (by decide) ?_
  refine ax_icmp_ge (pc := 7) (tgt := 36) C dX6_isOfKind_7 (by decide) (fun z => False.elim (absurd z (by decide))) (fun _ => ?_)
  refine ax_iload_2 (pc := 10) C dX6_isOfKind_10 ?_
  refine ax_iload_1 (pc := 11) C dX6_isOfKind_11 ?_
  refine ax_icmp_eq (pc := 12) (tgt := 36) C dX6_isOfKind_12 (by decide) (fun z => False.elim (absurd z (by decide))) (fun _ => ?_)
  refine ax_iload_2 (pc := 15) C dX6_isOfKind_15 ?_
  refine ax_iconst (pc := 16) (v := 0) C dX6_isOfKind_16 (by decide) ?_
  refine ax_iconst (pc := 17) (v := 5) C dX6_isOfKind_17 (by decide) ?_
  refine ax_callSi (pc := 18) C (w_X6_isWithin F) kX6_isWithin mX6_59 dX6_isOfKind_18 (by decide) rfl rfl (Nat.le_of_ble_eq_true rfl) rfl ⟨Nat.le_refl _, Nat.le_refl _⟩ ?_
  refine ax_if_eq (pc := 21) (tgt := 36) C dX6_isOfKind_21 (by decide) (fun z => False.elim (ax_beq z (by decide))) (fun _ => ?_)
  refine ax_gets (pc := 24) C hS0 st_254 dX6_isOfKind_24 ?_
  refine ax_iload_2 (pc := 27) C dX6_isOfKind_27 ?_
  refine ax_sta (pc := 28) C hS0 (w := 0) 0 (by decide) rfl rfl dX6_isOfKind_28 ?_
  refine ax_istore_2 (pc := 29) C dX6_isOfKind_29 rfl ?_
  refine ax_iinc_3 (pc := 30) C dX6_isOfKind_30 (1) (by decide) rfl ?_
  refine ax_goto (pc := 33) (tgt := 4) C dX6_isOfKind_33 (by decide) ?_
  refine ax_iload_3 (pc := 4) C dX6_isOfKind_4 ?_
  refine ax_bipush (pc := 5) (v := 6) C dX6_isOfKind_5 (by decide) ?_
  refine ax_icmp_ge (pc := 7) (tgt := 36) C dX6_isOfKind_7 (by decide) (fun z => False.elim (absurd z (by decide))) (fun _ => ?_)
  refine ax_iload_2 (pc := 10) C dX6_isOfKind_10 ?_
  refine ax_iload_1 (pc := 11) C dX6_isOfKind_11 ?_
  refine ax_icmp_eq (pc := 12) (tgt := 36) C dX6_isOfKind_12 (by decide) (fun z => False.elim (absurd z (by decide))) (fun _ => ?_)
  refine ax_iload_2 (pc := 15) C dX6_isOfKind_15 ?_
  refine ax_iconst (pc := 16) (v := 0) C dX6_isOfKind_16 (by decide) ?_
  refine ax_iconst (pc := 17) (v := 5) C dX6_isOfKind_17 (by decide) ?_
  refine ax_callSi (pc := 18) C (w_X6_isWithin F) kX6_isWithin mX6_59 dX6_isOfKind_18 (by decide) rfl rfl (Nat.le_of_ble_eq_true rfl) rfl ⟨Nat.le_refl _, Nat.le_refl _⟩ ?_
  refine ax_if_eq (pc := 21) (tgt := 36) C dX6_isOfKind_21 (by decide) (fun z => False.elim (ax_beq z (by decide))) (fun _ => ?_)
  refine ax_gets (pc := 24) C hS0 st_254 dX6_isOfKind_24 ?_
  refine ax_iload_2 (pc := 27) C dX6_isOfKind_27 ?_
  refine ax_sta (pc := 28) C hS0 (w := 0) 0 (by decide) rfl rfl dX6_isOfKind_28 ?_
  refine ax_istore_2 (pc := 29) C dX6_isOfKind_29 rfl ?_
  refine ax_iinc_3 (pc := 30) C dX6_isOfKind_30 (1) (by decide) rfl ?_
  refine ax_goto (pc := 33) (tgt := 4) C dX6_isOfKind_33 (by decide) ?_
  refine ax_iload_3 (pc := 4) C dX6_isOfKind_4 ?_
  refine ax_bipush (pc := 5) (v := 6) C dX6_isOfKind_5 (by decide) ?_
  refine ax_icmp_ge (pc := 7) (tgt := 36) C dX6_isOfKind_7 (by decide) (fun z => False.elim (absurd z (by decide))) (fun _ => ?_)
  refine ax_iload_2 (pc := 10) C dX6_isOfKind_10 ?_
  refine ax_iload_1 (pc := 11) C dX6_isOfKind_11 ?_
  refine ax_icmp_eq (pc := 12) (tgt := 36) C dX6_isOfKind_12 (by decide) (fun z => False.elim (absurd z (by decide))) (fun _ => ?_)
  refine ax_iload_2 (pc := 15) C dX6_isOfKind_15 ?_
  refine ax_iconst (pc := 16) (v := 0) C dX6_isOfKind_16 (by decide) ?_
  refine ax_iconst (pc := 17) (v := 5) C dX6_isOfKind_17 (by decide) ?_
  refine ax_callSi (pc := 18) C (w_X6_isWithin F) kX6_isWithin mX6_59 dX6_isOfKind_18 (by decide) rfl rfl (Nat.le_of_ble_eq_true rfl) rfl ⟨Nat.le_refl _, Nat.le_refl _⟩ ?_
  refine ax_if_eq (pc := 21) (tgt := 36) C dX6_isOfKind_21 (by decide) (fun z => False.elim (ax_beq z (by decide))) (fun _ => ?_)
  refine ax_gets (pc := 24) C hS0 st_254 dX6_isOfKind_24 ?_
  refine ax_iload_2 (pc := 27) C dX6_isOfKind_27 ?_
  refine ax_sta (pc := 28) C hS0 (w := 0) 0 (by decide) rfl rfl dX6_isOfKind_28 ?_
  refine ax_istore_2 (pc := 29) C dX6_isOfKind_29 rfl ?_
  refine ax_iinc_3 (pc := 30) C dX6_isOfKind_30 (1) (by decide) rfl ?_
  refine ax_goto (pc := 33) (tgt := 4) C dX6_isOfKind_33 (by decide) ?_
  refine ax_iload_3 (pc := 4) C dX6_isOfKind_4 ?_
  refine ax_bipush (pc := 5) (v := 6) C dX6_isOfKind_5 (by decide) ?_
  refine ax_icmp_ge (pc := 7) (tgt := 36) C dX6_isOfKind_7 (by decide) (fun _ => ?_) (fun z => False.elim (absurd z (by decide)))
  refine ax_iload_2 (pc := 36) C dX6_isOfKind_36 ?_
  refine ax_iload_1 (pc := 37) C dX6_isOfKind_37 ?_
  refine ax_icmp_ne (pc := 38) (tgt := 45) C dX6_isOfKind_38 (by decide) (fun _ => ?_) (fun z => False.elim (absurd z (by decide)))
  refine ax_iconst (pc := 45) (v := 0) C dX6_isOfKind_45 (by decide) ?_
  exact ax_zr (pc := 46) C rfl rfl dX6_isOfKind_46 rfl rfl

set_option maxRecDepth 20000 in
set_option maxHeartbeats 4000000 in
theorem w_X6_isOfKind_1_4 {Y : ax_Y} {ad : Nat → Nat} (F : ax_F Y) {l : Launch} {σ : ax_Z} : ax_m Y ad l iX6_isOfKind 1 σ [.int 1, .int 4] (some (.int 0)) σ := by
  obtain ⟨a0, hS0⟩ := ax_St_0 F
  refine ax_m.of F kX6_isOfKind.1 [some (.int (1)), some (.int (4)), none, none] rfl (Nat.le_of_ble_eq_true rfl) (fun x C => ?_)
  refine ax_iload_0 (pc := 0) C dX6_isOfKind_0 ?_
  refine ax_istore_2 (pc := 1) C dX6_isOfKind_1 rfl ?_
  refine ax_iconst (pc := 2) (v := 0) C dX6_isOfKind_2 (by decide) ?_
  refine ax_istore_3 (pc := 3) C dX6_isOfKind_3 rfl ?_
  refine ax_iload_3 (pc := 4) C dX6_isOfKind_4 ?_
  refine ax_bipush (pc := 5) (v := 6) C dX6_isOfKind_5 (by decide) ?_
  refine ax_icmp_ge (pc := 7) (tgt := 36) C dX6_isOfKind_7 (by decide) (fun z => False.elim (absurd z (by decide))) (fun _ => ?_)
  refine ax_iload_2 (pc := 10) C dX6_isOfKind_10 ?_
  refine ax_iload_1 (pc := 11) C dX6_isOfKind_11 ?_
  refine ax_icmp_eq (pc := 12) (tgt := 36) C dX6_isOfKind_12 (by decide) (fun z => False.elim (absurd z (by decide))) (fun _ => ?_)
  refine ax_iload_2 (pc := 15) C dX6_isOfKind_15 ?_
  refine ax_iconst (pc := 16) (v := 0) C dX6_isOfKind_16 (by decide) ?_
  refine ax_iconst (pc := 17) (v := 5) C dX6_isOfKind_17 (by decide) ?_
  refine ax_callSi (pc := 18) C (w_X6_isWithin F) kX6_isWithin mX6_59 dX6_isOfKind_18 (by decide) rfl rfl (Nat.le_of_ble_eq_true rfl) rfl ⟨Nat.le_refl _, Nat.le_refl _⟩ ?_
  refine ax_if_eq (pc := 21) (tgt := 36) C dX6_isOfKind_21 (by decide) (fun z => False.elim (ax_beq z (by decide))) (fun _ => ?_)
  refine ax_gets (pc := 24) C hS0 st_254 dX6_isOfKind_24 ?_
  refine ax_iload_2 (pc := 27) C dX6_isOfKind_27 ?_
  refine ax_sta (pc := 28) C hS0 (w := 0) 1 (by decide) rfl rfl dX6_isOfKind_28 ?_
  refine ax_istore_2 (pc := 29) C dX6_isOfKind_29 rfl ?_
  refine ax_iinc_3 (pc := 30) C dX6_isOfKind_30 (1) (by decide) rfl ?_
  refine ax_goto (pc := 33) (tgt := 4) C dX6_isOfKind_33 (by decide) ?_
  refine ax_iload_3 (pc := 4) C dX6_isOfKind_4 ?_
  refine ax_bipush (pc := 5) (v := 6) C dX6_isOfKind_5 (by decide) ?_
  refine ax_icmp_ge (pc := 7) (tgt := 36) C dX6_isOfKind_7 (by decide) (fun z => False.elim (absurd z (by decide))) (fun _ => ?_)
  refine ax_iload_2 (pc := 10) C dX6_isOfKind_10 ?_
  refine ax_iload_1 (pc := 11) C dX6_isOfKind_11 ?_
  refine ax_icmp_eq (pc := 12) (tgt := 36) C dX6_isOfKind_12 (by decide) (fun z => False.elim (absurd z (by decide))) (fun _ => ?_)
  refine ax_iload_2 (pc := 15) C dX6_isOfKind_15 ?_
  refine ax_iconst (pc := 16) (v := 0) C dX6_isOfKind_16 (by decide) ?_
  refine ax_iconst (pc := 17) (v := 5) C dX6_isOfKind_17 (by decide) ?_
  refine ax_callSi (pc := 18) C (w_X6_isWithin F) kX6_isWithin mX6_59 dX6_isOfKind_18 (by decide) rfl rfl (Nat.le_of_ble_eq_true rfl) rfl ⟨Nat.le_refl _, Nat.le_refl _⟩ ?_
  refine ax_if_eq (pc := 21) (tgt := 36) C dX6_isOfKind_21 (by decide) (fun z => False.elim (ax_beq z (by decide))) (fun _ => ?_)
  refine ax_gets (pc := 24) C hS0 st_254 dX6_isOfKind_24 ?_
  refine ax_iload_2 (pc := 27) C dX6_isOfKind_27 ?_
  refine ax_sta (pc := 28) C hS0 (w := 0) 0 (by decide) rfl rfl dX6_isOfKind_28 ?_
  refine ax_istore_2 (pc := 29) C dX6_isOfKind_29 rfl ?_
  refine ax_iinc_3 (pc := 30) C dX6_isOfKind_30 (1) (by decide) rfl ?_
  refine ax_goto (pc := 33) (tgt := 4) C dX6_isOfKind_33 (by decide) ?_
  refine ax_iload_3 (pc := 4) C dX6_isOfKind_4 ?_
  refine ax_bipush (pc := 5) (v := 6) C dX6_isOfKind_5 (by decide) ?_
  refine ax_icmp_ge (pc := 7) (tgt := 36) C dX6_isOfKind_7 (by decide) (fun z => False.elim (absurd z (by decide))) (fun _ => ?_)
  refine ax_iload_2 (pc := 10) C dX6_isOfKind_10 ?_
  refine ax_iload_1 (pc := 11) C dX6_isOfKind_11 ?_
  refine ax_icmp_eq (pc := 12) (tgt := 36) C dX6_isOfKind_12 (by decide) (fun z => False.elim (absurd z (by decide))) (fun _ => ?_)
  refine ax_iload_2 (pc := 15) C dX6_isOfKind_15 ?_
  refine ax_iconst (pc := 16) (v := 0) C dX6_isOfKind_16 (by decide) ?_
  refine ax_iconst (pc := 17) (v := 5) C dX6_isOfKind_17 (by decide) ?_
  refine ax_callSi (pc := 18) C (w_X6_isWithin F) kX6_isWithin mX6_59 dX6_isOfKind_18 (by decide) rfl rfl (Nat.le_of_ble_eq_true rfl) rfl ⟨Nat.le_refl _, Nat.le_refl _⟩ ?_
  refine ax_if_eq (pc := 21) (tgt := 36) C dX6_isOfKind_21 (by decide) (fun z => False.elim (ax_beq z (by decide))) (fun _ => ?_)
  refine ax_gets (pc := 24) C hS0 st_254 dX6_isOfKind_24 ?_
  refine ax_iload_2 (pc := 27) C dX6_isOfKind_27 ?_
  refine ax_sta (pc := 28) C hS0 (w := 0) 0 (by decide) rfl rfl dX6_isOfKind_28 ?_
  refine ax_istore_2 (pc := 29) C dX6_isOfKind_29 rfl ?_
  refine ax_iinc_3 (pc := 30) C dX6_isOfKind_30 (1) (by decide) rfl ?_
  refine ax_goto (pc := 33) (tgt := 4) C dX6_isOfKind_33 (by decide) ?_
  refine ax_iload_3 (pc := 4) C dX6_isOfKind_4 ?_
  refine ax_bipush (pc := 5) (v := 6) C dX6_isOfKind_5 (by decide) ?_
  refine ax_icmp_ge (pc := 7) (tgt := 36) C dX6_isOfKind_7 (by decide) (fun z => False.elim (absurd z (by decide))) (fun _ => ?_)
  refine ax_iload_2 (pc := 10) C dX6_isOfKind_10 ?_
  refine ax_iload_1 (pc := 11) C dX6_isOfKind_11 ?_
  refine ax_icmp_eq (pc := 12) (tgt := 36) C dX6_isOfKind_12 (by decide) (fun z => False.elim (absurd z (by decide))) (fun _ => ?_)
  refine ax_iload_2 (pc := 15) C dX6_isOfKind_15 ?_
  refine ax_iconst (pc := 16) (v := 0) C dX6_isOfKind_16 (by decide) ?_
  refine ax_iconst (pc := 17) (v := 5) C dX6_isOfKind_17 (by decide) ?_
  refine ax_callSi (pc := 18) C (w_X6_isWithin F) kX6_isWithin mX6_59 dX6_isOfKind_18 (by decide) rfl rfl (Nat.le_of_ble_eq_true rfl) rfl ⟨Nat.le_refl _, Nat.le_refl _⟩ ?_
  refine ax_if_eq (pc := 21) (tgt := 36) C dX6_isOfKind_21 (by decide) (fun z => False.elim (ax_beq z (by decide))) (fun _ => ?_)
  refine ax_gets (pc := 24) C hS0 st_254 dX6_isOfKind_24 ?_
  refine ax_iload_2 (pc := 27) C dX6_isOfKind_27 ?_
  refine ax_sta (pc := 28) C hS0 (w := 0) 0 (by decide) rfl rfl dX6_isOfKind_28 ?_
  refine ax_istore_2 (pc := 29) C dX6_isOfKind_29 rfl ?_
  refine ax_iinc_3 (pc := 30) C dX6_isOfKind_30 (1) (by decide) rfl ?_
  refine ax_goto (pc := 33) (tgt := 4) C dX6_isOfKind_33 (by decide) ?_
  refine ax_iload_3 (pc := 4) C dX6_isOfKind_4 ?_
  refine ax_bipush (pc := 5) (v := 6) C dX6_isOfKind_5 (by decide) ?_
  refine ax_icmp_ge (pc := 7) (tgt := 36) C dX6_isOfKind_7 (by decide) (fun z => False.elim (absurd z (by decide))) (fun _ => ?_)
  refine ax_iload_2 (pc := 10) C dX6_isOfKind_10 ?_
  refine ax_iload_1 (pc := 11) C dX6_isOfKind_11 ?_
  refine ax_icmp_eq (pc := 12) (tgt := 36) C dX6_isOfKind_12 (by decide) (fun z => False.elim (absurd z (by decide))) (fun _ => ?_)
  refine ax_iload_2 (pc := 15) C dX6_isOfKind_15 ?_
  refine ax_iconst (pc := 16) (v := 0) C dX6_isOfKind_16 (by decide) ?_
  refine ax_iconst (pc := 17) (v := 5) C dX6_isOfKind_17 (by decide) ?_
  refine ax_callSi (pc := 18) C (w_X6_isWithin F) kX6_isWithin mX6_59 dX6_isOfKind_18 (by decide) rfl rfl (Nat.le_of_ble_eq_true rfl) rfl ⟨Nat.le_refl _, Nat.le_refl _⟩ ?_
  refine ax_if_eq (pc := 21) (tgt := 36) C dX6_isOfKind_21 (by decide) (fun z => False.elim (ax_beq z (by decide))) (fun _ => ?_)
  refine ax_gets (pc := 24) C hS0 st_254 dX6_isOfKind_24 ?_
  refine ax_iload_2 (pc := 27) C dX6_isOfKind_27 ?_
  refine ax_sta (pc := 28) C hS0 (w := 0) 0 (by decide) rfl rfl dX6_isOfKind_28 ?_
  refine ax_istore_2 (pc := 29) C dX6_isOfKind_29 rfl ?_
  refine ax_iinc_3 (pc := 30) C dX6_isOfKind_30 (1) (by decide) rfl ?_
  refine ax_goto (pc := 33) (tgt := 4) C dX6_isOfKind_33 (by decide) ?_
  refine ax_iload_3 (pc := 4) C dX6_isOfKind_4 ?_
  refine ax_bipush (pc := 5) (v := 6) C dX6_isOfKind_5 (by decide) ?_
  refine ax_icmp_ge (pc := 7) (tgt := 36) C dX6_isOfKind_7 (by decide) (fun z => False.elim (absurd z (by decide))) (fun _ => ?_)
  refine ax_iload_2 (pc := 10) C dX6_isOfKind_10 ?_
  refine ax_iload_1 (pc := 11) C dX6_isOfKind_11 ?_
  refine ax_icmp_eq (pc := 12) (tgt := 36) C dX6_isOfKind_12 (by decide) (fun z => False.elim (absurd z (by decide))) (fun _ => ?_)
  refine ax_iload_2 (pc := 15) C dX6_isOfKind_15 ?_
  refine ax_iconst (pc := 16) (v := 0) C dX6_isOfKind_16 (by decide) ?_
  refine ax_iconst (pc := 17) (v := 5) C dX6_isOfKind_17 (by decide) ?_
  refine ax_callSi (pc := 18) C (w_X6_isWithin F) kX6_isWithin mX6_59 dX6_isOfKind_18 (by decide) rfl rfl (Nat.le_of_ble_eq_true rfl) rfl ⟨Nat.le_refl _, Nat.le_refl _⟩ ?_
  refine ax_if_eq (pc := 21) (tgt := 36) C dX6_isOfKind_21 (by decide) (fun z => False.elim (ax_beq z (by decide))) (fun _ => ?_)
  refine ax_gets (pc := 24) C hS0 st_254 dX6_isOfKind_24 ?_
  refine ax_iload_2 (pc := 27) C dX6_isOfKind_27 ?_
  refine ax_sta (pc := 28) C hS0 (w := 0) 0 (by decide) rfl rfl dX6_isOfKind_28 ?_
  refine ax_istore_2 (pc := 29) C dX6_isOfKind_29 rfl ?_
  refine ax_iinc_3 (pc := 30) C dX6_isOfKind_30 (1) (by decide) rfl ?_
  refine ax_goto (pc := 33) (tgt := 4) C dX6_isOfKind_33 (by decide) ?_
  refine ax_iload_3 (pc := 4) C dX6_isOfKind_4 ?_
  refine ax_bipush (pc := 5) (v := 6) C dX6_isOfKind_5 (by decide) ?_
  refine ax_icmp_ge (pc := 7) (tgt := 36) C dX6_isOfKind_7 (by decide) (fun _ => ?_) (fun z => False.elim (absurd z (by decide)))
  refine ax_iload_2 (pc := 36) C dX6_isOfKind_36 ?_
  refine ax_iload_1 (pc := 37) C dX6_isOfKind_37 ?_
  refine ax_icmp_ne (pc := 38) (tgt := 45) C dX6_isOfKind_38 (by decide) (fun _ => ?_) (fun z => False.elim (absurd z (by decide)))
  refine ax_iconst (pc := 45) (v := 0) C dX6_isOfKind_45 (by decide) ?_
  exact ax_zr (pc := 46) C rfl rfl dX6_isOfKind_46 rfl rfl

set_option maxRecDepth 20000 in
set_option maxHeartbeats 4000000 in
theorem w_X6_isOfKind_1_5 {Y : ax_Y} {ad : Nat → Nat} (F : ax_F Y) {l : Launch} {σ : ax_Z} : ax_m Y ad l iX6_isOfKind 1 σ [.int 1, .int 5] (some (.int 0)) σ := by
  obtain ⟨a0, hS0⟩ := ax_St_0 F
  refine ax_m.of F kX6_isOfKind.1 [some (.int (1)), some (.int (5)), none, none] rfl (Nat.le_of_ble_eq_true rfl) (fun x C => ?_)
  refine ax_iload_0 (pc := 0) C dX6_isOfKind_0 ?_
  refine ax_istore_2 (pc := 1) C dX6_isOfKind_1 rfl ?_
  refine ax_iconst (pc := 2) (v := 0) C dX6_isOfKind_2 (by decide) ?_
  refine ax_istore_3 (pc := 3) C dX6_isOfKind_3 rfl ?_
  refine ax_iload_3 (pc := 4) C dX6_isOfKind_4 ?_
  refine ax_bipush (pc := 5) (v := 6) C dX6_isOfKind_5 (by decide) ?_
  refine ax_icmp_ge (pc := 7) (tgt := 36) C dX6_isOfKind_7 (by decide) (fun z => False.elim (absurd z (by decide))) (fun _ => ?_)
  refine ax_iload_2 (pc := 10) C dX6_isOfKind_10 ?_
  refine ax_iload_1 (pc := 11) C dX6_isOfKind_11 ?_
  refine ax_icmp_eq (pc := 12) (tgt := 36) C dX6_isOfKind_12 (by decide) (fun z => False.elim (absurd z (by decide))) (fun _ => ?_)
  refine ax_iload_2 (pc := 15) C dX6_isOfKind_15 ?_
  refine ax_iconst (pc := 16) (v := 0) C dX6_isOfKind_16 (by decide) ?_
  refine ax_iconst (pc := 17) (v := 5) C dX6_isOfKind_17 (by decide) ?_
  refine ax_callSi (pc := 18) C (w_X6_isWithin F) kX6_isWithin mX6_59 dX6_isOfKind_18 (by decide) rfl rfl (Nat.le_of_ble_eq_true rfl) rfl ⟨Nat.le_refl _, Nat.le_refl _⟩ ?_
  refine ax_if_eq (pc := 21) (tgt := 36) C dX6_isOfKind_21 (by decide) (fun z => False.elim (ax_beq z (by decide))) (fun _ => ?_)
  refine ax_gets (pc := 24) C hS0 st_254 dX6_isOfKind_24 ?_
  refine ax_iload_2 (pc := 27) C dX6_isOfKind_27 ?_
  refine ax_sta (pc := 28) C hS0 (w := 0) 1 (by decide) rfl rfl dX6_isOfKind_28 ?_
  refine ax_istore_2 (pc := 29) C dX6_isOfKind_29 rfl ?_
  refine ax_iinc_3 (pc := 30) C dX6_isOfKind_30 (1) (by decide) rfl ?_
  refine ax_goto (pc := 33) (tgt := 4) C dX6_isOfKind_33 (by decide) ?_
  refine ax_iload_3 (pc := 4) C dX6_isOfKind_4 ?_
  refine ax_bipush (pc := 5) (v := 6) C dX6_isOfKind_5 (by decide) ?_
  refine ax_icmp_ge (pc := 7) (tgt := 36) C dX6_isOfKind_7 (by decide) (fun z => False.elim (absurd z (by decide))) (fun _ => ?_)
  refine ax_iload_2 (pc := 10) C dX6_isOfKind_10 ?_
  refine ax_iload_1 (pc := 11) C dX6_isOfKind_11 ?_
  refine ax_icmp_eq (pc := 12) (tgt := 36) C dX6_isOfKind_12 (by decide) (fun z => False.elim (absurd z (by decide))) (fun _ => ?_)
  refine ax_iload_2 (pc := 15) C dX6_isOfKind_15 ?_
  refine ax_iconst (pc := 16) (v := 0) C dX6_isOfKind_16 (by decide) ?_
  refine ax_iconst (pc := 17) (v := 5) C dX6_isOfKind_17 (by decide) ?_
  refine ax_callSi (pc := 18) C (w_X6_isWithin F) kX6_isWithin mX6_59 dX6_isOfKind_18 (by decide) rfl rfl (Nat.le_of_ble_eq_true rfl) rfl ⟨Nat.le_refl _, Nat.le_refl _⟩ ?_
  refine ax_if_eq (pc := 21) (tgt := 36) C dX6_isOfKind_21 (by decide) (fun z => False.elim (ax_beq z (by decide))) (fun _ => ?_)
  refine ax_gets (pc := 24) C hS0 st_254 dX6_isOfKind_24 ?_
  refine ax_iload_2 (pc := 27) C dX6_isOfKind_27 ?_
  refine ax_sta (pc := 28) C hS0 (w := 0) 0 (by decide) rfl rfl dX6_isOfKind_28 ?_
  refine ax_istore_2 (pc := 29) C dX6_isOfKind_29 rfl ?_
  refine ax_iinc_3 (pc := 30) C dX6_isOfKind_30 (1) (by decide) rfl ?_
  refine ax_goto (pc := 33) (tgt := 4) C dX6_isOfKind_33 (by decide) ?_
  refine ax_iload_3 (pc := 4) C dX6_isOfKind_4 ?_
  refine ax_bipush (pc := 5) (v := 6) C dX6_isOfKind_5 (by decide) ?_
  refine ax_icmp_ge (pc := 7) (tgt := 36) C dX6_isOfKind_7 (by decide) (fun z => False.elim (absurd z (by decide))) (fun _ => ?_)
  refine ax_iload_2 (pc := 10) C dX6_isOfKind_10 ?_
  refine ax_iload_1 (pc := 11) C dX6_isOfKind_11 ?_
  refine ax_icmp_eq (pc := 12) (tgt := 36) C dX6_isOfKind_12 (by decide) (fun z => False.elim (absurd z (by decide))) (fun _ => ?_)
  refine ax_iload_2 (pc := 15) C dX6_isOfKind_15 ?_
  refine ax_iconst (pc := 16) (v := 0) C dX6_isOfKind_16 (by decide) ?_
  refine ax_iconst (pc := 17) (v := 5) C dX6_isOfKind_17 (by decide) ?_
  refine ax_callSi (pc := 18) C (w_X6_isWithin F) kX6_isWithin mX6_59 dX6_isOfKind_18 (by decide) rfl rfl (Nat.le_of_ble_eq_true rfl) rfl ⟨Nat.le_refl _, Nat.le_refl _⟩ ?_
  refine ax_if_eq (pc := 21) (tgt := 36) C dX6_isOfKind_21 (by decide) (fun z => False.elim (ax_beq z (by decide))) (fun _ => ?_)
  refine ax_gets (pc := 24) C hS0 st_254 dX6_isOfKind_24 ?_
  refine ax_iload_2 (pc := 27) C dX6_isOfKind_27 ?_
  refine ax_sta (pc := 28) C hS0 (w := 0) 0 (by decide) rfl rfl dX6_isOfKind_28 ?_
  refine ax_istore_2 (pc := 29) C dX6_isOfKind_29 rfl ?_
  refine ax_iinc_3 (pc := 30) C dX6_isOfKind_30 (1) (by decide) rfl ?_
  refine ax_goto (pc := 33) (tgt := 4) C dX6_isOfKind_33 (by decide) ?_
  refine ax_iload_3 (pc := 4) C dX6_isOfKind_4 ?_
  refine ax_bipush (pc := 5) (v := 6) C dX6_isOfKind_5 (by decide) ?_
  refine ax_icmp_ge (pc := 7) (tgt := 36) C dX6_isOfKind_7 (by decide) (fun z => False.elim (absurd z (by decide))) (fun _ => ?_)
  refine ax_iload_2 (pc := 10) C dX6_isOfKind_10 ?_
  refine ax_iload_1 (pc := 11) C dX6_isOfKind_11 ?_
  refine ax_icmp_eq (pc := 12) (tgt := 36) C dX6_isOfKind_12 (by decide) (fun z => False.elim (absurd z (by decide))) (fun _ => ?_)
  refine ax_iload_2 (pc := 15) C dX6_isOfKind_15 ?_
  refine ax_iconst (pc := 16) (v := 0) C dX6_isOfKind_16 (by decide) ?_
  refine ax_iconst (pc := 17) (v := 5) C dX6_isOfKind_17 (by decide) ?_
  refine ax_callSi (pc := 18) C (w_X6_isWithin F) kX6_isWithin mX6_59 dX6_isOfKind_18 (by decide) rfl rfl (Nat.le_of_ble_eq_true rfl) rfl ⟨Nat.le_refl _, Nat.le_refl _⟩ ?_
  refine ax_if_eq (pc := 21) (tgt := 36) C dX6_isOfKind_21 (by decide) (fun z => False.elim (ax_beq z (by decide))) (fun _ => ?_)
  refine ax_gets (pc := 24) C hS0 st_254 dX6_isOfKind_24 ?_
  refine ax_iload_2 (pc := 27) C dX6_isOfKind_27 ?_
  refine ax_sta (pc := 28) C hS0 (w := 0) 0 (by decide) rfl rfl dX6_isOfKind_28 ?_
  refine ax_istore_2 (pc := 29) C dX6_isOfKind_29 rfl ?_
  refine ax_iinc_3 (pc := 30) C dX6_isOfKind_30 (1) (by decide) rfl ?_
  refine ax_goto (pc := 33) (tgt := 4) C dX6_isOfKind_33 (by decide) ?_
  refine ax_iload_3 (pc := 4) C dX6_isOfKind_4 ?_
  refine ax_bipush (pc := 5) (v := 6) C dX6_isOfKind_5 (by decide) ?_
  refine ax_icmp_ge (pc := 7) (tgt := 36) C dX6_isOfKind_7 (by decide) (fun z => False.elim (absurd z (by decide))) (fun _ => ?_)
  refine ax_iload_2 (pc := 10) C dX6_isOfKind_10 ?_
  refine ax_iload_1 (pc := 11) C dX6_isOfKind_11 ?_
  refine ax_icmp_eq (pc := 12) (tgt := 36) C dX6_isOfKind_12 (by decide) (fun z => False.elim (absurd z (by decide))) (fun _ => ?_)
  refine ax_iload_2 (pc := 15) C dX6_isOfKind_15 ?_
  refine ax_iconst (pc := 16) (v := 0) C dX6_isOfKind_16 (by decide) ?_
  refine ax_iconst (pc := 17) (v := 5) C dX6_isOfKind_17 (by decide) ?_
  refine ax_callSi (pc := 18) C (w_X6_isWithin F) kX6_isWithin mX6_59 dX6_isOfKind_18 (by decide) rfl rfl (Nat.le_of_ble_eq_true rfl) rfl ⟨Nat.le_refl _, Nat.le_refl _⟩ ?_
  refine ax_if_eq (pc := 21) (tgt := 36) C dX6_isOfKind_21 (by decide) (fun z => False.elim (ax_beq z (by decide))) (fun _ => ?_)
  refine ax_gets (pc := 24) C hS0 st_254 dX6_isOfKind_24 ?_
  refine ax_iload_2 (pc := 27) C dX6_isOfKind_27 ?_
  refine ax_sta (pc := 28) C hS0 (w := 0) 0 (by decide) rfl rfl dX6_isOfKind_28 ?_
  refine ax_istore_2 (pc := 29) C dX6_isOfKind_29 rfl ?_
  refine ax_iinc_3 (pc := 30) C dX6_isOfKind_30 (1) (by decide) rfl ?_
  refine ax_goto (pc := 33) (tgt := 4) C dX6_isOfKind_33 (by decide) ?_
  refine ax_iload_3 (pc := 4) C dX6_isOfKind_4 ?_
  refine ax_bipush (pc := 5) (v := 6) C dX6_isOfKind_5 (by decide) ?_
  refine ax_icmp_ge (pc := 7) (tgt := 36) C dX6_isOfKind_7 (by decide) (fun z => False.elim (absurd z (by decide))) (fun _ => ?_)
  refine ax_iload_2 (pc := 10) C dX6_isOfKind_10 ?_
  refine ax_iload_1 (pc := 11) C dX6_isOfKind_11 ?_
  refine ax_icmp_eq (pc := 12) (tgt := 36) C dX6_isOfKind_12 (by decide) (fun z => False.elim (absurd z (by decide))) (fun _ => ?_)
  refine ax_iload_2 (pc := 15) C dX6_isOfKind_15 ?_
  refine ax_iconst (pc := 16) (v := 0) C dX6_isOfKind_16 (by decide) ?_
  refine ax_iconst (pc := 17) (v := 5) C dX6_isOfKind_17 (by decide) ?_
  refine ax_callSi (pc := 18) C (w_X6_isWithin F) kX6_isWithin mX6_59 dX6_isOfKind_18 (by decide) rfl rfl (Nat.le_of_ble_eq_true rfl) rfl ⟨Nat.le_refl _, Nat.le_refl _⟩ ?_
  refine ax_if_eq (pc := 21) (tgt := 36) C dX6_isOfKind_21 (by decide) (fun z => False.elim (ax_beq z (by decide))) (fun _ => ?_)
  refine ax_gets (pc := 24) C hS0 st_254 dX6_isOfKind_24 ?_
  refine ax_iload_2 (pc := 27) C dX6_isOfKind_27 ?_
  refine ax_sta (pc := 28) C hS0 (w := 0) 0 (by decide) rfl rfl dX6_isOfKind_28 ?_
  refine ax_istore_2 (pc := 29) C dX6_isOfKind_29 rfl ?_
  refine ax_iinc_3 (pc := 30) C dX6_isOfKind_30 (1) (by decide) rfl ?_
  refine ax_goto (pc := 33) (tgt := 4) C dX6_isOfKind_33 (by decide) ?_
  refine ax_iload_3 (pc := 4) C dX6_isOfKind_4 ?_
  refine ax_bipush (pc := 5) (v := 6) C dX6_isOfKind_5 (by decide) ?_
  refine ax_icmp_ge (pc := 7) (tgt := 36) C dX6_isOfKind_7 (by decide) (fun _ => ?_) (fun z => False.elim (absurd z (by decide)))
  refine ax_iload_2 (pc := 36) C dX6_isOfKind_36 ?_
  refine ax_iload_1 (pc := 37) C dX6_isOfKind_37 ?_
  refine ax_icmp_ne (pc := 38) (tgt := 45) C dX6_isOfKind_38 (by decide) (fun _ => ?_) (fun z => False.elim (absurd z (by decide)))
  refine ax_iconst (pc := 45) (v := 0) C dX6_isOfKind_45 (by decide) ?_
  exact ax_zr (pc := 46) C rfl rfl dX6_isOfKind_46 rfl rfl

set_option maxRecDepth 20000 in
set_option maxHeartbeats 4000000 in
theorem w_X6_isOfKind_2_0 {Y : ax_Y} {ad : Nat → Nat} (F : ax_F Y) {l : Launch} {σ : ax_Z} : ax_m Y ad l iX6_isOfKind 1 σ [.int 2, .int 0] (some (.int 1)) σ := by
  obtain ⟨a0, hS0⟩ := ax_St_0 F
  refine ax_m.of F kX6_isOfKind.1 [some (.int (2)), some (.int (0)), none, none] rfl (Nat.le_of_ble_eq_true rfl) (fun x C => ?_)
  refine ax_iload_0 (pc := 0) C dX6_isOfKind_0 ?_
  refine ax_istore_2 (pc := 1) C dX6_isOfKind_1 rfl ?_
  refine ax_iconst (pc := 2) (v := 0) C dX6_isOfKind_2 (by decide) ?_
  refine ax_istore_3 (pc := 3) C dX6_isOfKind_3 rfl ?_
  refine ax_iload_3 (pc := 4) C dX6_isOfKind_4 ?_
  refine ax_bipush (pc := 5) (v := 6) C dX6_isOfKind_5 (by decide) ?_
  refine ax_icmp_ge (pc := 7) (tgt := 36) C dX6_isOfKind_7 (by decide) (fun z => False.elim (absurd z (by decide))) (fun _ => ?_)
  refine ax_iload_2 (pc := 10) C dX6_isOfKind_10 ?_
  refine ax_iload_1 (pc := 11) C dX6_isOfKind_11 ?_
  refine ax_icmp_eq (pc := 12) (tgt := 36) C dX6_isOfKind_12 (by decide) (fun z => False.elim (absurd z (by decide))) (fun _ => ?_)
  refine ax_iload_2 (pc := 15) C dX6_isOfKind_15 ?_
  refine ax_iconst (pc := 16) (v := 0) C dX6_isOfKind_16 (by decide) ?_
  refine ax_iconst (pc := 17) (v := 5) C dX6_isOfKind_17 (by decide) ?_
  refine ax_callSi (pc := 18) C (w_X6_isWithin F) kX6_isWithin mX6_59 dX6_isOfKind_18 (by decide) rfl rfl (Nat.le_of_ble_eq_true rfl) rfl ⟨Nat.le_refl _, Nat.le_refl _⟩ ?_
  refine ax_if_eq (pc := 21) (tgt := 36) C dX6_isOfKind_21 (by decide) (fun z => False.elim (ax_beq z (by decide))) (fun _ => ?_)
  refine ax_gets (pc := 24) C hS0 st_254 dX6_isOfKind_24 ?_
  refine ax_iload_2 (pc := 27) C dX6_isOfKind_27 ?_
  refine ax_sta (pc := 28) C hS0 (w := 1) 2 (by decide) rfl rfl dX6_isOfKind_28 ?_
  refine ax_istore_2 (pc := 29) C dX6_isOfKind_29 rfl ?_
  refine ax_iinc_3 (pc := 30) C dX6_isOfKind_30 (1) (by decide) rfl ?_
  refine ax_goto (pc := 33) (tgt := 4) C dX6_isOfKind_33 (by decide) ?_
  refine ax_iload_3 (pc := 4) C dX6_isOfKind_4 ?_
  refine ax_bipush (pc := 5) (v := 6) C dX6_isOfKind_5 (by decide) ?_
  refine ax_icmp_ge (pc := 7) (tgt := 36) C dX6_isOfKind_7 (by decide) (fun z => False.elim (absurd z (by decide))) (fun _ => ?_)
  refine ax_iload_2 (pc := 10) C dX6_isOfKind_10 ?_
  refine ax_iload_1 (pc := 11) C dX6_isOfKind_11 ?_
  refine ax_icmp_eq (pc := 12) (tgt := 36) C dX6_isOfKind_12 (by decide) (fun z => False.elim (absurd z (by decide))) (fun _ => ?_)
  refine ax_iload_2 (pc := 15) C dX6_isOfKind_15 ?_
  refine ax_iconst (pc := 16) (v := 0) C dX6_isOfKind_16 (by decide) ?_
  refine ax_iconst (pc := 17) (v := 5) C dX6_isOfKind_17 (by decide) ?_
  refine ax_callSi (pc := 18) C (w_X6_isWithin F) kX6_isWithin mX6_59 dX6_isOfKind_18 (by decide) rfl rfl (Nat.le_of_ble_eq_true rfl) rfl ⟨Nat.le_refl _, Nat.le_refl _⟩ ?_
  refine ax_if_eq (pc := 21) (tgt := 36) C dX6_isOfKind_21 (by decide) (fun z => False.elim (ax_beq z (by decide))) (fun _ => ?_)
  refine ax_gets (pc := 24) C hS0 st_254 dX6_isOfKind_24 ?_
  refine ax_iload_2 (pc := 27) C dX6_isOfKind_27 ?_
  refine ax_sta (pc := 28) C hS0 (w := 0) 1 (by decide) rfl rfl dX6_isOfKind_28 ?_
  refine ax_istore_2 (pc := 29) C dX6_isOfKind_29 rfl ?_
  refine ax_iinc_3 (pc := 30) C dX6_isOfKind_30 (1) (by decide) rfl ?_
  refine ax_goto (pc := 33) (tgt := 4) C dX6_isOfKind_33 (by decide) ?_
  refine ax_iload_3 (pc := 4) C dX6_isOfKind_4 ?_
  refine ax_bipush (pc := 5) (v := 6) C dX6_isOfKind_5 (by decide) ?_
  refine ax_icmp_ge (pc := 7) (tgt := 36) C dX6_isOfKind_7 (by decide) (fun z => False.elim (absurd z (by decide))) (fun _ => ?_)
  refine ax_iload_2 (pc := 10) C dX6_isOfKind_10 ?_
  refine ax_iload_1 (pc := 11) C dX6_isOfKind_11 ?_
  refine ax_icmp_eq (pc := 12) (tgt := 36) C dX6_isOfKind_12 (by decide) (fun _ => ?_) (fun z => False.elim (absurd z (by decide)))
  refine ax_iload_2 (pc := 36) C dX6_isOfKind_36 ?_
  refine ax_iload_1 (pc := 37) C dX6_isOfKind_37 ?_
  refine ax_icmp_ne (pc := 38) (tgt := 45) C dX6_isOfKind_38 (by decide) (fun z => False.elim (absurd z (by decide))) (fun _ => ?_)
  refine ax_iconst (pc := 41) (v := 1) C dX6_isOfKind_41 (by decide) ?_
  refine ax_goto (pc := 42) (tgt := 46) C dX6_isOfKind_42 (by decide) ?_
  exact ax_zr (pc := 46) C rfl rfl dX6_isOfKind_46 rfl rfl

set_option maxRecDepth 20000 in
set_option maxHeartbeats 4000000 in
theorem w_X6_isOfKind_2_1 {Y : ax_Y} {ad : Nat → Nat} (F : ax_F Y) {l : Launch} {σ : ax_Z} : ax_m Y ad l iX6_isOfKind 1 σ [.int 2, .int 1] (some (.int 1)) σ := by
  obtain ⟨a0, hS0⟩ := ax_St_0 F
  refine ax_m.of F kX6_isOfKind.1 [some (.int (2)), some (.int (1)), none, none] rfl (Nat.le_of_ble_eq_true rfl) (fun x C => ?_)
  refine ax_iload_0 (pc := 0) C dX6_isOfKind_0 ?_
  refine ax_istore_2 (pc := 1) C dX6_isOfKind_1 rfl ?_
  refine ax_iconst (pc := 2) (v := 0) C dX6_isOfKind_2 (by decide) ?_
  refine ax_istore_3 (pc := 3) C dX6_isOfKind_3 rfl ?_
  refine ax_iload_3 (pc := 4) C dX6_isOfKind_4 ?_
  refine ax_bipush (pc := 5) (v := 6) C dX6_isOfKind_5 (by decide) ?_
  refine ax_icmp_ge (pc := 7) (tgt := 36) C dX6_isOfKind_7 (by decide) (fun z => False.elim (absurd z (by decide))) (fun _ => ?_)
  refine ax_iload_2 (pc := 10) C dX6_isOfKind_10 ?_
  refine ax_iload_1 (pc := 11) C dX6_isOfKind_11 ?_
  refine ax_icmp_eq (pc := 12) (tgt := 36) C dX6_isOfKind_12 (by decide) (fun z => False.elim (absurd z (by decide))) (fun _ => ?_)
  refine ax_iload_2 (pc := 15) C dX6_isOfKind_15 ?_
  refine ax_iconst (pc := 16) (v := 0) C dX6_isOfKind_16 (by decide) ?_
  refine ax_iconst (pc := 17) (v := 5) C dX6_isOfKind_17 (by decide) ?_
  refine ax_callSi (pc := 18) C (w_X6_isWithin F) kX6_isWithin mX6_59 dX6_isOfKind_18 (by decide) rfl rfl (Nat.le_of_ble_eq_true rfl) rfl ⟨Nat.le_refl _, Nat.le_refl _⟩ ?_
  refine ax_if_eq (pc := 21) (tgt := 36) C dX6_isOfKind_21 (by decide) (fun z => False.elim (ax_beq z (by decide))) (fun _ => ?_)
  refine ax_gets (pc := 24) C hS0 st_254 dX6_isOfKind_24 ?_
  refine ax_iload_2 (pc := 27) C dX6_isOfKind_27 ?_
  refine ax_sta (pc := 28) C hS0 (w := 1) 2 (by decide) rfl rfl dX6_isOfKind_28 ?_
  refine ax_istore_2 (pc := 29) C dX6_isOfKind_29 rfl ?_
  refine ax_iinc_3 (pc := 30) C dX6_isOfKind_30 (1) (by decide) rfl ?_
  refine ax_goto (pc := 33) (tgt := 4) C dX6_isOfKind_33 (by decide) ?_
  refine ax_iload_3 (pc := 4) C dX6_isOfKind_4 ?_
  refine ax_bipush (pc := 5) (v := 6) C dX6_isOfKind_5 (by decide) ?_
  refine ax_icmp_ge (pc := 7) (tgt := 36) C dX6_isOfKind_7 (by decide) (fun z => False.elim (absurd z (by decide))) (fun _ => ?_)
  refine ax_iload_2 (pc := 10) C dX6_isOfKind_10 ?_
  refine ax_iload_1 (pc := 11) C dX6_isOfKind_11 ?_
  refine ax_icmp_eq (pc := 12) (tgt := 36) C dX6_isOfKind_12 (by decide) (fun _ => ?_) (fun z => False.elim (absurd z (by decide)))
  refine ax_iload_2 (pc := 36) C dX6_isOfKind_36 ?_
  refine ax_iload_1 (pc := 37) C dX6_isOfKind_37 ?_
  refine ax_icmp_ne (pc := 38) (tgt := 45) C dX6_isOfKind_38 (by decide) (fun z => False.elim (absurd z (by decide))) (fun _ => ?_)
  refine ax_iconst (pc := 41) (v := 1) C dX6_isOfKind_41 (by decide) ?_
  refine ax_goto (pc := 42) (tgt := 46) C dX6_isOfKind_42 (by decide) ?_
  exact ax_zr (pc := 46) C rfl rfl dX6_isOfKind_46 rfl rfl

set_option maxRecDepth 20000 in
set_option maxHeartbeats 4000000 in
theorem w_X6_isOfKind_2_2 {Y : ax_Y} {ad : Nat → Nat} (F : ax_F Y) {l : Launch} {σ : ax_Z} : ax_m Y ad l iX6_isOfKind 1 σ [.int 2, .int 2] (some (.int 1)) σ := by
  obtain ⟨a0, hS0⟩ := ax_St_0 F
  refine ax_m.of F kX6_isOfKind.1 [some (.int (2)), some (.int (2)), none, none] rfl (Nat.le_of_ble_eq_true rfl) (fun x C => ?_)
  refine ax_iload_0 (pc := 0) C dX6_isOfKind_0 ?_
  refine ax_istore_2 (pc := 1) C dX6_isOfKind_1 rfl ?_
  refine ax_iconst (pc := 2) (v := 0) C dX6_isOfKind_2 (by decide) ?_
  refine ax_istore_3 (pc := 3) C dX6_isOfKind_3 rfl ?_
  refine ax_iload_3 (pc := 4) C dX6_isOfKind_4 ?_
  refine ax_bipush (pc := 5) (v := 6) C dX6_isOfKind_5 (by decide) ?_
  refine ax_icmp_ge (pc := 7) (tgt := 36) C dX6_isOfKind_7 (by decide) (fun z => False.elim (absurd z (by decide))) (fun _ => ?_)
  refine ax_iload_2 (pc := 10) C dX6_isOfKind_10 ?_
  refine ax_iload_1 (pc := 11) C dX6_isOfKind_11 ?_
  refine ax_icmp_eq (pc := 12) (tgt := 36) C dX6_isOfKind_12 (by decide) (fun _ => ?_) (fun z => False.elim (absurd z (by decide)))
  refine ax_iload_2 (pc := 36) C dX6_isOfKind_36 ?_
  refine ax_iload_1 (pc := 37) C dX6_isOfKind_37 ?_
  refine ax_icmp_ne (pc := 38) (tgt := 45) C dX6_isOfKind_38 (by decide) (fun z => False.elim (absurd z (by decide))) (fun _ => ?_)
  refine ax_iconst (pc := 41) (v := 1) C dX6_isOfKind_41 (by decide) ?_
  refine ax_goto (pc := 42) (tgt := 46) C dX6_isOfKind_42 (by decide) ?_
  exact ax_zr (pc := 46) C rfl rfl dX6_isOfKind_46 rfl rfl

set_option maxRecDepth 20000 in
set_option maxHeartbeats 4000000 in
theorem w_X6_isOfKind_2_3 {Y : ax_Y} {ad : Nat → Nat} (F : ax_F Y) {l : Launch} {σ : ax_Z} : ax_m Y ad l iX6_isOfKind 1 σ [.int 2, .int 3] (some (.int 0)) σ := by
  obtain ⟨a0, hS0⟩ := ax_St_0 F
  refine ax_m.of F kX6_isOfKind.1 [some (.int (2)), some (.int (3)), none, none] rfl (Nat.le_of_ble_eq_true rfl) (fun x C => ?_)
  refine ax_iload_0 (pc := 0) C dX6_isOfKind_0 ?_
  refine ax_istore_2 (pc := 1) C dX6_isOfKind_1 rfl ?_
  refine ax_iconst (pc := 2) (v := 0) C dX6_isOfKind_2 (by decide) ?_
  refine ax_istore_3 (pc := 3) C dX6_isOfKind_3 rfl ?_
  refine ax_iload_3 (pc := 4) C dX6_isOfKind_4 ?_
  refine ax_bipush (pc := 5) (v := 6) C dX6_isOfKind_5 (by decide) ?_
  refine ax_icmp_ge (pc := 7) (tgt := 36) C dX6_isOfKind_7 (by decide) (fun z => False.elim (absurd z (by decide))) (fun _ => ?_)
  refine ax_iload_2 (pc := 10) C dX6_isOfKind_10 ?_
  refine ax_iload_1 (pc := 11) C dX6_isOfKind_11 ?_
  refine ax_icmp_eq (pc := 12) (tgt := 36) C dX6_isOfKind_12 (by decide) (fun z => False.elim (absurd z (by decide))) (fun _ => ?_)
  refine ax_iload_2 (pc := 15) C dX6_isOfKind_15 ?_
  refine ax_iconst (pc := 16) (v := 0) C dX6_isOfKind_16 (by decide) ?_
  refine ax_iconst (pc := 17) (v := 5) C dX6_isOfKind_17 (by decide) ?_
  refine ax_callSi (pc := 18) C (w_X6_isWithin F) kX6_isWithin mX6_59 dX6_isOfKind_18 (by decide) rfl rfl (Nat.le_of_ble_eq_true rfl) rfl ⟨Nat.le_refl _, Nat.le_refl _⟩ ?_
  refine ax_if_eq (pc := 21) (tgt := 36) C dX6_isOfKind_21 (by decide) (fun z => False.elim (ax_beq z (by decide))) (fun _ => ?_)
  refine ax_gets (pc := 24) C hS0 st_254 dX6_isOfKind_24 ?_
  refine ax_iload_2 (pc := 27) C dX6_isOfKind_27 ?_
  refine ax_sta (pc := 28) C hS0 (w := 1) 2 (by decide) rfl rfl dX6_isOfKind_28 ?_
  refine ax_istore_2 (pc := 29) C dX6_isOfKind_29 rfl ?_
  refine ax_iinc_3 (pc := 30) C dX6_isOfKind_30 (1) (by decide) rfl ?_
  refine ax_goto (pc := 33) (tgt := 4) C dX6_isOfKind_33 (by decide) ?_
  refine ax_iload_3 (pc := 4) C dX6_isOfKind_4 ?_
  refine ax_bipush (pc := 5) (v := 6) C dX6_isOfKind_5 (by decide) ?_
  refine ax_icmp_ge (pc := 7) (tgt := 36) C dX6_isOfKind_7 (by decide) (fun z => False.elim (absurd z (by decide))) (fun _ => ?_)
  refine ax_iload_2 (pc := 10) C dX6_isOfKind_10 ?_
  refine ax_iload_1 (pc := 11) C dX6_isOfKind_11 ?_
  refine ax_icmp_eq (pc := 12) (tgt := 36) C dX6_isOfKind_12 (by decide) (fun z => False.elim (absurd z (by decide))) (fun _ => ?_)
  refine ax_iload_2 (pc := 15) C dX6_isOfKind_15 ?_
  refine ax_iconst (pc := 16) (v := 0) C dX6_isOfKind_16 (by decide) ?_
  refine ax_iconst (pc := 17) (v := 5) C dX6_isOfKind_17 (by decide) ?_
  refine ax_callSi (pc := 18) C (w_X6_isWithin F) kX6_isWithin mX6_59 dX6_isOfKind_18 (by decide) rfl rfl (Nat.le_of_ble_eq_true rfl) rfl ⟨Nat.le_refl _, Nat.le_refl _⟩ ?_
  refine ax_if_eq (pc := 21) (tgt := 36) C dX6_isOfKind_21 (by decide) (fun z => False.elim (ax_beq z (by decide))) (fun _ => ?_)
  refine ax_gets (pc := 24) C hS0 st_254 dX6_isOfKind_24 ?_
  refine ax_iload_2 (pc := 27) C dX6_isOfKind_27 ?_
  refine ax_sta (pc := 28) C hS0 (w := 0) 1 (by decide) rfl rfl dX6_isOfKind_28 ?_
  refine ax_istore_2 (pc := 29) C dX6_isOfKind_29 rfl ?_
  refine ax_iinc_3 (pc := 30) C dX6_isOfKind_30 (1) (by decide) rfl ?_
  refine ax_goto (pc := 33) (tgt := 4) C dX6_isOfKind_33 (by decide) ?_
  refine ax_iload_3 (pc := 4) C dX6_isOfKind_4 ?_
  refine ax_bipush (pc := 5) (v := 6) C dX6_isOfKind_5 (by decide) ?_
  refine ax_icmp_ge (pc := 7) (tgt := 36) C dX6_isOfKind_7 (by decide) (fun z => False.elim (absurd z (by decide))) (fun _ => ?_)
  refine ax_iload_2 (pc := 10) C dX6_isOfKind_10 ?_
  refine ax_iload_1 (pc := 11) C dX6_isOfKind_11 ?_
  refine ax_icmp_eq (pc := 12) (tgt := 36) C dX6_isOfKind_12 (by decide) (fun z => False.elim (absurd z (by decide))) (fun _ => ?_)
  refine ax_iload_2 (pc := 15) C dX6_isOfKind_15 ?_
  refine ax_iconst (pc := 16) (v := 0) C dX6_isOfKind_16 (by decide) ?_
  refine ax_iconst (pc := 17) (v := 5) C dX6_isOfKind_17 (by decide) ?_
  refine ax_callSi (pc := 18) C (w_X6_isWithin F) kX6_isWithin mX6_59 dX6_isOfKind_18 (by decide) rfl rfl (Nat.le_of_ble_eq_true rfl) rfl ⟨Nat.le_refl _, Nat.le_refl _⟩ ?_
  refine ax_if_eq (pc := 21) (tgt := 36) C dX6_isOfKind_21 (by decide) (fun z => False.elim (ax_beq z (by decide))) (fun _ => ?_)
  refine ax_gets (pc := 24) C hS0 st_254 dX6_isOfKind_24 ?_
  refine ax_iload_2 (pc := 27) C dX6_isOfKind_27 ?_
  refine ax_sta (pc := 28) C hS0 (w := 0) 0 (by decide) rfl rfl dX6_isOfKind_28 ?_
  refine ax_istore_2 (pc := 29) C dX6_isOfKind_29 rfl ?_
  refine ax_iinc_3 (pc := 30) C dX6_isOfKind_30 (1) (by decide) rfl ?_
  refine ax_goto (pc := 33) (tgt := 4) C dX6_isOfKind_33 (by decide) ?_
  refine ax_iload_3 (pc := 4) C dX6_isOfKind_4 ?_
  refine ax_bipush (pc := 5) (v := 6) C dX6_isOfKind_5 (by decide) ?_
  refine ax_icmp_ge (pc := 7) (tgt := 36) C dX6_isOfKind_7 (by decide) (fun z => False.elim (absurd z (by decide))) (fun _ => ?_)
  refine ax_iload_2 (pc := 10) C dX6_isOfKind_10 ?_
  refine ax_iload_1 (pc := 11) C dX6_isOfKind_11 ?_
  refine ax_icmp_eq (pc := 12) (tgt := 36) C dX6_isOfKind_12 (by decide) (fun z => False.elim (absurd z (by decide))) (fun _ => ?_)
  refine ax_iload_2 (pc := 15) C dX6_isOfKind_15 ?_
  refine ax_iconst (pc := 16) (v := 0) C dX6_isOfKind_16 (by decide) ?_
  refine ax_iconst (pc := 17) (v := 5) C dX6_isOfKind_17 (by decide) ?_
  refine ax_callSi (pc := 18) C (w_X6_isWithin F) kX6_isWithin mX6_59 dX6_isOfKind_18 (by decide) rfl rfl (Nat.le_of_ble_eq_true rfl) rfl ⟨Nat.le_refl _, Nat.le_refl _⟩ ?_
  refine ax_if_eq (pc := 21) (tgt := 36) C dX6_isOfKind_21 (by decide) (fun z => False.elim (ax_beq z (by decide))) (fun _ => ?_)
  refine ax_gets (pc := 24) C hS0 st_254 dX6_isOfKind_24 ?_
  refine ax_iload_2 (pc := 27) C dX6_isOfKind_27 ?_
  refine ax_sta (pc := 28) C hS0 (w := 0) 0 (by decide) rfl rfl dX6_isOfKind_28 ?_
  refine ax_istore_2 (pc := 29) C dX6_isOfKind_29 rfl ?_
  refine ax_iinc_3 (pc := 30) C dX6_isOfKind_30 (1) (by decide) rfl ?_
  refine ax_goto (pc := 33) (tgt := 4) C dX6_isOfKind_33 (by decide) ?_
  refine ax_iload_3 (pc := 4) C dX6_isOfKind_4 ?_
  refine ax_bipush (pc := 5) (v := 6) C dX6_isOfKind_5 (by decide) ?_
  refine ax_icmp_ge (pc := 7) (tgt := 36) C dX6_isOfKind_7 (by decide) (fun z => False.elim (absurd z (by decide))) (fun _ => ?_)
  refine ax_iload_2 (pc := 10) C dX6_isOfKind_10 ?_
  refine ax_iload_1 (pc := 11) C dX6_isOfKind_11 ?_
  refine ax_icmp_eq (pc := 12) (tgt := 36) C dX6_isOfKind_12 (by decide) (fun z => False.elim (absurd z (by decide))) (fun _ => ?_)
  refine ax_iload_2 (pc := 15) C dX6_isOfKind_15 ?_
  refine ax_iconst (pc := 16) (v := 0) C dX6_isOfKind_16 (by decide) ?_
  refine ax_iconst (pc := 17) (v := 5) C dX6_isOfKind_17 (by decide) ?_
  refine ax_callSi (pc := 18) C (w_X6_isWithin F) kX6_isWithin mX6_59 dX6_isOfKind_18 (by decide) rfl rfl (Nat.le_of_ble_eq_true rfl) rfl ⟨Nat.le_refl _, Nat.le_refl _⟩ ?_
  refine ax_if_eq (pc := 21) (tgt := 36) C dX6_isOfKind_21 (by decide) (fun z => False.elim (ax_beq z (by decide))) (fun _ => ?_)
  refine ax_gets (pc := 24) C hS0 st_254 dX6_isOfKind_24 ?_
  refine ax_iload_2 (pc := 27) C dX6_isOfKind_27 ?_
  refine ax_sta (pc := 28) C hS0 (w := 0) 0 (by decide) rfl rfl dX6_isOfKind_28 ?_
  refine ax_istore_2 (pc := 29) C dX6_isOfKind_29 rfl ?_
  refine ax_iinc_3 (pc := 30) C dX6_isOfKind_30 (1) (by decide) rfl ?_
  refine ax_goto (pc := 33) (tgt := 4) C dX6_isOfKind_33 (by decide) ?_
  refine ax_iload_3 (pc := 4) C dX6_isOfKind_4 ?_
  refine ax_bipush (pc := 5) (v := 6) C dX6_isOfKind_5 (by decide) ?_
  refine ax_icmp_ge (pc := 7) (tgt := 36) C dX6_isOfKind_7 (by decide) (fun z => False.elim (absurd z (by decide))) (fun _ => ?_)
  refine ax_iload_2 (pc := 10) C dX6_isOfKind_10 ?_
  refine ax_iload_1 (pc := 11) C dX6_isOfKind_11 ?_
  refine ax_icmp_eq (pc := 12) (tgt := 36) C dX6_isOfKind_12 (by decide) (fun z => False.elim (absurd z (by decide))) (fun _ => ?_)
  refine ax_iload_2 (pc := 15) C dX6_isOfKind_15 ?_
  refine ax_iconst (pc := 16) (v := 0) C dX6_isOfKind_16 (by decide) ?_
  refine ax_iconst (pc := 17) (v := 5) C dX6_isOfKind_17 (by decide) ?_
  refine ax_callSi (pc := 18) C (w_X6_isWithin F) kX6_isWithin mX6_59 dX6_isOfKind_18 (by decide) rfl rfl (Nat.le_of_ble_eq_true rfl) rfl ⟨Nat.le_refl _, Nat.le_refl _⟩ ?_
  refine ax_if_eq (pc := 21) (tgt := 36) C dX6_isOfKind_21 (by decide) (fun z => False.elim (ax_beq z (by decide))) (fun _ => ?_)
  refine ax_gets (pc := 24) C hS0 st_254 dX6_isOfKind_24 ?_
  refine ax_iload_2 (pc := 27) C dX6_isOfKind_27 ?_
  refine ax_sta (pc := 28) C hS0 (w := 0) 0 (by decide) rfl rfl dX6_isOfKind_28 ?_
  refine ax_istore_2 (pc := 29) C dX6_isOfKind_29 rfl ?_
  refine ax_iinc_3 (pc := 30) C dX6_isOfKind_30 (1) (by decide) rfl ?_
  refine ax_goto (pc := 33) (tgt := 4) C dX6_isOfKind_33 (by decide) ?_
  refine ax_iload_3 (pc := 4) C dX6_isOfKind_4 ?_
  refine ax_bipush (pc := 5) (v := 6) C dX6_isOfKind_5 (by decide) ?_
  refine ax_icmp_ge (pc := 7) (tgt := 36) C dX6_isOfKind_7 (by decide) (fun _ => ?_) (fun z => False.elim (absurd z (by decide)))
  refine ax_iload_2 (pc := 36) C dX6_isOfKind_36 ?_
  refine ax_iload_1 (pc := 37) C dX6_isOfKind_37 ?_
  refine ax_icmp_ne (pc := 38) (tgt := 45) C dX6_isOfKind_38 (by decide) (fun _ => ?_) (fun z => False.elim (absurd z (by decide)))
  refine ax_iconst (pc := 45) (v := 0) C dX6_isOfKind_45 (by decide) ?_
  exact ax_zr (pc := 46) C rfl rfl dX6_isOfKind_46 rfl rfl

set_option maxRecDepth 20000 in
set_option maxHeartbeats 4000000 in
theorem w_X6_isOfKind_2_4 {Y : ax_Y} {ad : Nat → Nat} (F : ax_F Y) {l : Launch} {σ : ax_Z} : ax_m Y ad l iX6_isOfKind 1 σ [.int 2, .int 4] (some (.int 0)) σ := by
  obtain ⟨a0, hS0⟩ := ax_St_0 F
  refine ax_m.of F kX6_isOfKind.1 [some (.int (2)), some (.int (4)), none, none] rfl (Nat.le_of_ble_eq_true rfl) (fun x C => ?_)
  refine ax_iload_0 (pc := 0) C dX6_isOfKind_0 ?_
  refine ax_istore_2 (pc := 1) C dX6_isOfKind_1 rfl ?_
  refine ax_iconst (pc := 2) (v := 0) C dX6_isOfKind_2 (by decide) ?_
  refine ax_istore_3 (pc := 3) C dX6_isOfKind_3 rfl ?_
  refine ax_iload_3 (pc := 4) C dX6_isOfKind_4 ?_
  refine ax_bipush (pc := 5) (v := 6) C dX6_isOfKind_5 (by decide) ?_
  refine ax_icmp_ge (pc := 7) (tgt := 36) C dX6_isOfKind_7 (by decide) (fun z => False.elim (absurd z (by decide))) (fun _ => ?_)
  refine ax_iload_2 (pc := 10) C dX6_isOfKind_10 ?_
  refine ax_iload_1 (pc := 11) C dX6_isOfKind_11 ?_
  refine ax_icmp_eq (pc := 12) (tgt := 36) C dX6_isOfKind_12 (by decide) (fun z => False.elim (absurd z (by decide))) (fun _ => ?_)
  refine ax_iload_2 (pc := 15) C dX6_isOfKind_15 ?_
  refine ax_iconst (pc := 16) (v := 0) C dX6_isOfKind_16 (by decide) ?_
  refine ax_iconst (pc := 17) (v := 5) C dX6_isOfKind_17 (by decide) ?_
  refine ax_callSi (pc := 18) C (w_X6_isWithin F) kX6_isWithin mX6_59 dX6_isOfKind_18 (by decide) rfl rfl (Nat.le_of_ble_eq_true rfl) rfl ⟨Nat.le_refl _, Nat.le_refl _⟩ ?_
  refine ax_if_eq (pc := 21) (tgt := 36) C dX6_isOfKind_21 (by decide) (fun z => False.elim (ax_beq z (by decide))) (fun _ => ?_)
  refine ax_gets (pc := 24) C hS0 st_254 dX6_isOfKind_24 ?_
  refine ax_iload_2 (pc := 27) C dX6_isOfKind_27 ?_
  refine ax_sta (pc := 28) C hS0 (w := 1) 2 (by decide) rfl rfl dX6_isOfKind_28 ?_
  refine ax_istore_2 (pc := 29) C dX6_isOfKind_29 rfl ?_
  refine ax_iinc_3 (pc := 30) C dX6_isOfKind_30 (1) (by decide) rfl ?_
  refine ax_goto (pc := 33) (tgt := 4) C dX6_isOfKind_33 (by decide) ?_
  refine ax_iload_3 (pc := 4) C dX6_isOfKind_4 ?_
  refine ax_bipush (pc := 5) (v := 6) C dX6_isOfKind_5 (by decide) ?_
  refine ax_icmp_ge (pc := 7) (tgt := 36) C dX6_isOfKind_7 (by decide) (fun z => False.elim (absurd z (by decide))) (fun _ => ?_)
  refine ax_iload_2 (pc := 10) C dX6_isOfKind_10 ?_
  refine ax_iload_1 (pc := 11) C dX6_isOfKind_11 ?_
  refine ax_icmp_eq (pc := 12) (tgt := 36) C dX6_isOfKind_12 (by decide) (fun z => False.elim (absurd z (by decide))) (fun _ => ?_)
  refine ax_iload_2 (pc := 15) C dX6_isOfKind_15 ?_
  refine ax_iconst (pc := 16) (v := 0) C dX6_isOfKind_16 (by decide) ?_
  refine ax_iconst (pc := 17) (v := 5) C dX6_isOfKind_17 (by decide) ?_
  refine ax_callSi (pc := 18) C (w_X6_isWithin F) kX6_isWithin mX6_59 dX6_isOfKind_18 (by decide) rfl rfl (Nat.le_of_ble_eq_true rfl) rfl ⟨Nat.le_refl _, Nat.le_refl _⟩ ?_
  refine ax_if_eq (pc := 21) (tgt := 36) C dX6_isOfKind_21 (by decide) (fun z => False.elim (ax_beq z (by decide))) (fun _ => ?_)
  refine ax_gets (pc := 24) C hS0 st_254 dX6_isOfKind_24 ?_
  refine ax_iload_2 (pc := 27) C dX6_isOfKind_27 ?_
  refine ax_sta (pc := 28) C hS0 (w := 0) 1 (by decide) rfl rfl dX6_isOfKind_28 ?_
  refine ax_istore_2 (pc := 29) C dX6_isOfKind_29 rfl ?_
  refine ax_iinc_3 (pc := 30) C dX6_isOfKind_30 (1) (by decide) rfl ?_
  refine ax_goto (pc := 33) (tgt := 4) C dX6_isOfKind_33 (by decide) ?_
  refine ax_iload_3 (pc := 4) C dX6_isOfKind_4 ?_
  refine ax_bipush (pc := 5) (v := 6) C dX6_isOfKind_5 (by decide) ?_
  refine ax_icmp_ge (pc := 7) (tgt := 36) C dX6_isOfKind_7 (by decide) (fun z => False.elim (absurd z (by decide))) (fun _ => ?_)
  refine ax_iload_2 (pc := 10) C dX6_isOfKind_10 ?_
  refine ax_iload_1 (pc := 11) C dX6_isOfKind_11 ?_
  refine ax_icmp_eq (pc := 12) (tgt := 36) C dX6_isOfKind_12 (by decide) (fun z => False.elim (absurd z (by decide))) (fun _ => ?_)
  refine ax_iload_2 (pc := 15) C dX6_isOfKind_15 ?_
  refine ax_iconst (pc := 16) (v := 0) C dX6_isOfKind_16 (by decide) ?_
  refine ax_iconst (pc := 17) (v := 5) C dX6_isOfKind_17 (by decide) ?_
  refine ax_callSi (pc := 18) C (w_X6_isWithin F) kX6_isWithin mX6_59 dX6_isOfKind_18 (by decide) rfl rfl (Nat.le_of_ble_eq_true rfl) rfl ⟨Nat.le_refl _, Nat.le_refl _⟩ ?_
  refine ax_if_eq (pc := 21) (tgt := 36) C dX6_isOfKind_21 (by decide) (fun z => False.elim (ax_beq z (by decide))) (fun _ => ?_)
  refine ax_gets (pc := 24) C hS0 st_254 dX6_isOfKind_24 ?_
  refine ax_iload_2 (pc := 27) C dX6_isOfKind_27 ?_
  refine ax_sta (pc := 28) C hS0 (w := 0) 0 (by decide) rfl rfl dX6_isOfKind_28 ?_
  refine ax_istore_2 (pc := 29) C dX6_isOfKind_29 rfl ?_
  refine ax_iinc_3 (pc := 30) C dX6_isOfKind_30 (1) (by decide) rfl ?_
  refine ax_goto (pc := 33) (tgt := 4) C dX6_isOfKind_33 (by decide) ?_
  refine ax_iload_3 (pc := 4) C dX6_isOfKind_4 ?_
  refine ax_bipush (pc := 5) (v := 6) C dX6_isOfKind_5 (by decide) ?_
  refine ax_icmp_ge (pc := 7) (tgt := 36) C dX6_isOfKind_7 (by decide) (fun z => False.elim (absurd z (by decide))) (fun _ => ?_)
  refine ax_iload_2 (pc := 10) C dX6_isOfKind_10 ?_
  refine ax_iload_1 (pc := 11) C dX6_isOfKind_11 ?_
  refine ax_icmp_eq (pc := 12) (tgt := 36) C dX6_isOfKind_12 (by decide) (fun z => False.elim (absurd z (by decide))) (fun _ => ?_)
  refine ax_iload_2 (pc := 15) C dX6_isOfKind_15 ?_
  refine ax_iconst (pc := 16) (v := 0) C dX6_isOfKind_16 (by decide) ?_
  refine ax_iconst (pc := 17) (v := 5) C dX6_isOfKind_17 (by decide) ?_
  refine ax_callSi (pc := 18) C (w_X6_isWithin F) kX6_isWithin mX6_59 dX6_isOfKind_18 (by decide) rfl rfl (Nat.le_of_ble_eq_true rfl) rfl ⟨Nat.le_refl _, Nat.le_refl _⟩ ?_
  refine ax_if_eq (pc := 21) (tgt := 36) C dX6_isOfKind_21 (by decide) (fun z => False.elim (ax_beq z (by decide))) (fun _ => ?_)
  refine ax_gets (pc := 24) C hS0 st_254 dX6_isOfKind_24 ?_
  refine ax_iload_2 (pc := 27) C dX6_isOfKind_27 ?_
  refine ax_sta (pc := 28) C hS0 (w := 0) 0 (by decide) rfl rfl dX6_isOfKind_28 ?_
  refine ax_istore_2 (pc := 29) C dX6_isOfKind_29 rfl ?_
  refine ax_iinc_3 (pc := 30) C dX6_isOfKind_30 (1) (by decide) rfl ?_
  refine ax_goto (pc := 33) (tgt := 4) C dX6_isOfKind_33 (by decide) ?_
  refine ax_iload_3 (pc := 4) C dX6_isOfKind_4 ?_
  refine ax_bipush (pc := 5) (v := 6) C dX6_isOfKind_5 (by decide) ?_
  refine ax_icmp_ge (pc := 7) (tgt := 36) C dX6_isOfKind_7 (by decide) (fun z => False.elim (absurd z (by decide))) (fun _ => ?_)
  refine ax_iload_2 (pc := 10) C dX6_isOfKind_10 ?_
  refine ax_iload_1 (pc := 11) C dX6_isOfKind_11 ?_
  refine ax_icmp_eq (pc := 12) (tgt := 36) C dX6_isOfKind_12 (by decide) (fun z => False.elim (absurd z (by decide))) (fun _ => ?_)
  refine ax_iload_2 (pc := 15) C dX6_isOfKind_15 ?_
  refine ax_iconst (pc := 16) (v := 0) C dX6_isOfKind_16 (by decide) ?_
  refine ax_iconst (pc := 17) (v := 5) C dX6_isOfKind_17 (by decide) ?_
  refine ax_callSi (pc := 18) C (w_X6_isWithin F) kX6_isWithin mX6_59 dX6_isOfKind_18 (by decide) rfl rfl (Nat.le_of_ble_eq_true rfl) rfl ⟨Nat.le_refl _, Nat.le_refl _⟩ ?_
  refine ax_if_eq (pc := 21) (tgt := 36) C dX6_isOfKind_21 (by decide) (fun z => False.elim (ax_beq z (by decide))) (fun _ => ?_)
  refine ax_gets (pc := 24) C hS0 st_254 dX6_isOfKind_24 ?_
  refine ax_iload_2 (pc := 27) C dX6_isOfKind_27 ?_
  refine ax_sta (pc := 28) C hS0 (w := 0) 0 (by decide) rfl rfl dX6_isOfKind_28 ?_
  refine ax_istore_2 (pc := 29) C dX6_isOfKind_29 rfl ?_
  refine ax_iinc_3 (pc := 30) C dX6_isOfKind_30 (1) (by decide) rfl ?_
  refine ax_goto (pc := 33) (tgt := 4) C dX6_isOfKind_33 (by decide) ?_
  refine ax_iload_3 (pc := 4) C dX6_isOfKind_4 ?_
  refine ax_bipush (pc := 5) (v := 6) C dX6_isOfKind_5 (by decide) ?_
  refine ax_icmp_ge (pc := 7) (tgt := 36) C dX6_isOfKind_7 (by decide) (fun z => False.elim (absurd z (by decide))) (fun _ => ?_)
  refine ax_iload_2 (pc := 10) C dX6_isOfKind_10 ?_
  refine ax_iload_1 (pc := 11) C dX6_isOfKind_11 ?_
  refine ax_icmp_eq (pc := 12) (tgt := 36) C dX6_isOfKind_12 (by decide) (fun z => False.elim (absurd z (by decide))) (fun _ => ?_)
  refine ax_iload_2 (pc := 15) C dX6_isOfKind_15 ?_
  refine ax_iconst (pc := 16) (v := 0) C dX6_isOfKind_16 (by decide) ?_
  refine ax_iconst (pc := 17) (v := 5) C dX6_isOfKind_17 (by decide) ?_
  refine ax_callSi (pc := 18) C (w_X6_isWithin F) kX6_isWithin mX6_59 dX6_isOfKind_18 (by decide) rfl rfl (Nat.le_of_ble_eq_true rfl) rfl ⟨Nat.le_refl _, Nat.le_refl _⟩ ?_
  refine ax_if_eq (pc := 21) (tgt := 36) C dX6_isOfKind_21 (by decide) (fun z => False.elim (ax_beq z (by decide))) (fun _ => ?_)
  refine ax_gets (pc := 24) C hS0 st_254 dX6_isOfKind_24 ?_
  refine ax_iload_2 (pc := 27) C dX6_isOfKind_27 ?_
  refine ax_sta (pc := 28) C hS0 (w := 0) 0 (by decide) rfl rfl dX6_isOfKind_28 ?_
  refine ax_istore_2 (pc := 29) C dX6_isOfKind_29 rfl ?_
  refine ax_iinc_3 (pc := 30) C dX6_isOfKind_30 (1) (by decide) rfl ?_
  refine ax_goto (pc := 33) (tgt := 4) C dX6_isOfKind_33 (by decide) ?_
  refine ax_iload_3 (pc := 4) C dX6_isOfKind_4 ?_
  refine ax_bipush (pc := 5) (v := 6) C dX6_isOfKind_5 (by decide) ?_
  refine ax_icmp_ge (pc := 7) (tgt := 36) C dX6_isOfKind_7 (by decide) (fun _ => ?_) (fun z => False.elim (absurd z (by decide)))
  refine ax_iload_2 (pc := 36) C dX6_isOfKind_36 ?_
  refine ax_iload_1 (pc := 37) C dX6_isOfKind_37 ?_
  refine ax_icmp_ne (pc := 38) (tgt := 45) C dX6_isOfKind_38 (by decide) (fun _ => ?_) (fun z => False.elim (absurd z (by decide)))
  refine ax_iconst (pc := 45) (v := 0) C dX6_isOfKind_45 (by decide) ?_
  exact ax_zr (pc := 46) C rfl rfl dX6_isOfKind_46 rfl rfl

set_option maxRecDepth 20000 in
set_option maxHeartbeats 4000000 in
theorem w_X6_isOfKind_2_5 {Y : ax_Y} {ad : Nat → Nat} (F : ax_F Y) {l : Launch} {σ : ax_Z} : ax_m Y ad l iX6_isOfKind 1 σ [.int 2, .int 5] (some (.int 0)) σ := by
  obtain ⟨a0, hS0⟩ := ax_St_0 F
  refine ax_m.of F kX6_isOfKind.1 [some (.int (2)), some (.int (5)), none, none] rfl (Nat.le_of_ble_eq_true rfl) (fun x C => ?_)
  refine ax_iload_0 (pc := 0) C dX6_isOfKind_0 ?_
  refine ax_istore_2 (pc := 1) C dX6_isOfKind_1 rfl ?_
  refine ax_iconst (pc := 2) (v := 0) C dX6_isOfKind_2 (by decide) ?_
  refine ax_istore_3 (pc := 3) C dX6_isOfKind_3 rfl ?_
  refine ax_iload_3 (pc := 4) C dX6_isOfKind_4 ?_
  refine ax_bipush (pc := 5) (v := 6) C dX6_isOfKind_5 (by decide) ?_
  refine ax_icmp_ge (pc := 7) (tgt := 36) C dX6_isOfKind_7 (by decide) (fun z => False.elim (absurd z (by decide))) (fun _ => ?_)
  refine ax_iload_2 (pc := 10) C dX6_isOfKind_10 ?_
  refine ax_iload_1 (pc := 11) C dX6_isOfKind_11 ?_
  refine ax_icmp_eq (pc := 12) (tgt := 36) C dX6_isOfKind_12 (by decide) (fun z => False.elim (absurd z (by decide))) (fun _ => ?_)
  refine ax_iload_2 (pc := 15) C dX6_isOfKind_15 ?_
  refine ax_iconst (pc := 16) (v := 0) C dX6_isOfKind_16 (by decide) ?_
  refine ax_iconst (pc := 17) (v := 5) C dX6_isOfKind_17 (by decide) ?_
  refine ax_callSi (pc := 18) C (w_X6_isWithin F) kX6_isWithin mX6_59 dX6_isOfKind_18 (by decide) rfl rfl (Nat.le_of_ble_eq_true rfl) rfl ⟨Nat.le_refl _, Nat.le_refl _⟩ ?_
  refine ax_if_eq (pc := 21) (tgt := 36) C dX6_isOfKind_21 (by decide) (fun z => False.elim (ax_beq z (by decide))) (fun _ => ?_)
  refine ax_gets (pc := 24) C hS0 st_254 dX6_isOfKind_24 ?_
  refine ax_iload_2 (pc := 27) C dX6_isOfKind_27 ?_
  refine ax_sta (pc := 28) C hS0 (w := 1) 2 (by decide) rfl rfl dX6_isOfKind_28 ?_
  refine ax_istore_2 (pc := 29) C dX6_isOfKind_29 rfl ?_
  refine ax_iinc_3 (pc := 30) C dX6_isOfKind_30 (1) (by decide) rfl ?_
  refine ax_goto (pc := 33) (tgt := 4) C dX6_isOfKind_33 (by decide) ?_
  refine ax_iload_3 (pc := 4) C dX6_isOfKind_4 ?_
  refine ax_bipush (pc := 5) (v := 6) C dX6_isOfKind_5 (by decide) ?_
  refine ax_icmp_ge (pc := 7) (tgt := 36) C dX6_isOfKind_7 (by decide) (fun z => False.elim (absurd z (by decide))) (fun _ => ?_)
  refine ax_iload_2 (pc := 10) C dX6_isOfKind_10 ?_
  refine ax_iload_1 (pc := 11) C dX6_isOfKind_11 ?_
  refine ax_icmp_eq (pc := 12) (tgt := 36) C dX6_isOfKind_12 (by decide) (fun z => False.elim (absurd z (by decide))) (fun _ => ?_)
  refine ax_iload_2 (pc := 15) C dX6_isOfKind_15 ?_
  refine ax_iconst (pc := 16) (v := 0) C dX6_isOfKind_16 (by decide) ?_
  refine ax_iconst (pc := 17) (v := 5) C dX6_isOfKind_17 (by decide) ?_
  refine ax_callSi (pc := 18) C (w_X6_isWithin F) kX6_isWithin mX6_59 dX6_isOfKind_18 (by decide) rfl rfl (Nat.le_of_ble_eq_true rfl) rfl ⟨Nat.le_refl _, Nat.le_refl _⟩ ?_
  refine ax_if_eq (pc := 21) (tgt := 36) C dX6_isOfKind_21 (by decide) (fun z => False.elim (ax_beq z (by decide))) (fun _ => ?_)
  refine ax_gets (pc := 24) C hS0 st_254 dX6_isOfKind_24 ?_
  refine ax_iload_2 (pc := 27) C dX6_isOfKind_27 ?_
  refine ax_sta (pc := 28) C hS0 (w := 0) 1 (by decide) rfl rfl dX6_isOfKind_28 ?_
  refine ax_istore_2 (pc := 29) C dX6_isOfKind_29 rfl ?_
  refine ax_iinc_3 (pc := 30) C dX6_isOfKind_30 (1) (by decide) rfl ?_
  refine ax_goto (pc := 33) (tgt := 4) C dX6_isOfKind_33 (by decide) ?_
  refine ax_iload_3 (pc := 4) C dX6_isOfKind_4 ?_
  refine ax_bipush (pc := 5) (v := 6) C dX6_isOfKind_5 (by decide) ?_
  refine ax_icmp_ge (pc := 7) (tgt := 36) C dX6_isOfKind_7 (by decide) (fun z => False.elim (absurd z (by decide))) (fun _ => ?_)
  refine ax_iload_2 (pc := 10) C dX6_isOfKind_10 ?_
  refine ax_iload_1 (pc := 11) C dX6_isOfKind_11 ?_
  refine ax_icmp_eq (pc := 12) (tgt := 36) C dX6_isOfKind_12 (by decide) (fun z => False.elim (absurd z (by decide))) (fun _ => ?_)
  refine ax_iload_2 (pc := 15) C dX6_isOfKind_15 ?_
  refine ax_iconst (pc := 16) (v := 0) C dX6_isOfKind_16 (by decide) ?_
  refine ax_iconst (pc := 17) (v := 5) C dX6_isOfKind_17 (by decide) ?_
  refine ax_callSi (pc := 18) C (w_X6_isWithin F) kX6_isWithin mX6_59 dX6_isOfKind_18 (by decide) rfl rfl (Nat.le_of_ble_eq_true rfl) rfl ⟨Nat.le_refl _, Nat.le_refl _⟩ ?_
  refine ax_if_eq (pc := 21) (tgt := 36) C dX6_isOfKind_21 (by decide) (fun z => False.elim (ax_beq z (by decide))) (fun _ => ?_)
  refine ax_gets (pc := 24) C hS0 st_254 dX6_isOfKind_24 ?_
  refine ax_iload_2 (pc := 27) C dX6_isOfKind_27 ?_
  refine ax_sta (pc := 28) C hS0 (w := 0) 0 (by decide) rfl rfl dX6_isOfKind_28 ?_
  refine ax_istore_2 (pc := 29) C dX6_isOfKind_29 rfl ?_
  refine ax_iinc_3 (pc := 30) C dX6_isOfKind_30 (1) (by decide) rfl ?_
  refine ax_goto (pc := 33) (tgt := 4) C dX6_isOfKind_33 (by decide) ?_
  refine ax_iload_3 (pc := 4) C dX6_isOfKind_4 ?_
  refine ax_bipush (pc := 5) (v := 6) C dX6_isOfKind_5 (by decide) ?_
  refine ax_icmp_ge (pc := 7) (tgt := 36) C dX6_isOfKind_7 (by decide) (fun z => False.elim (absurd z (by decide))) (fun _ => ?_)
  refine ax_iload_2 (pc := 10) C dX6_isOfKind_10 ?_
  refine ax_iload_1 (pc := 11) C dX6_isOfKind_11 ?_
  refine ax_icmp_eq (pc := 12) (tgt := 36) C dX6_isOfKind_12 (by decide) (fun z => False.elim (absurd z (by decide))) (fun _ => ?_)
  refine ax_iload_2 (pc := 15) C dX6_isOfKind_15 ?_
  refine ax_iconst (pc := 16) (v := 0) C dX6_isOfKind_16 (by decide) ?_
  refine ax_iconst (pc := 17) (v := 5) C dX6_isOfKind_17 (by decide) ?_
  refine ax_callSi (pc := 18) C (w_X6_isWithin F) kX6_isWithin mX6_59 dX6_isOfKind_18 (by decide) rfl rfl (Nat.le_of_ble_eq_true rfl) rfl ⟨Nat.le_refl _, Nat.le_refl _⟩ ?_
  refine ax_if_eq (pc := 21) (tgt := 36) C dX6_isOfKind_21 (by decide) (fun z => False.elim (ax_beq z (by decide))) (fun _ => ?_)
  refine ax_gets (pc := 24) C hS0 st_254 dX6_isOfKind_24 ?_
  refine ax_iload_2 (pc := 27) C dX6_isOfKind_27 ?_
  refine ax_sta (pc := 28) C hS0 (w := 0) 0 (by decide) rfl rfl dX6_isOfKind_28 ?_
  refine ax_istore_2 (pc := 29) C dX6_isOfKind_29 rfl ?_
  refine ax_iinc_3 (pc := 30) C dX6_isOfKind_30 (1) (by decide) rfl ?_
  refine ax_goto (pc := 33) (tgt := 4) C dX6_isOfKind_33 (by decide) ?_
  refine ax_iload_3 (pc := 4) C dX6_isOfKind_4 ?_
  refine ax_bipush (pc := 5) (v := 6) C dX6_isOfKind_5 (by decide) ?_
  refine ax_icmp_ge (pc := 7) (tgt := 36) C dX6_isOfKind_7 (by decide) (fun z => False.elim (absurd z (by decide))) (fun _ => ?_)
  refine ax_iload_2 (pc := 10) C dX6_isOfKind_10 ?_
  refine ax_iload_1 (pc := 11) C dX6_isOfKind_11 ?_
  refine ax_icmp_eq (pc := 12) (tgt := 36) C dX6_isOfKind_12 (by decide) (fun z => False.elim (absurd z (by decide))) (fun _ => ?_)
  refine ax_iload_2 (pc := 15) C dX6_isOfKind_15 ?_
  refine ax_iconst (pc := 16) (v := 0) C dX6_isOfKind_16 (by decide) ?_
  refine ax_iconst (pc := 17) (v := 5) C dX6_isOfKind_17 (by decide) ?_
  refine ax_callSi (pc := 18) C (w_X6_isWithin F) kX6_isWithin mX6_59 dX6_isOfKind_18 (by decide) rfl rfl (Nat.le_of_ble_eq_true rfl) rfl ⟨Nat.le_refl _, Nat.le_refl _⟩ ?_
  refine ax_if_eq (pc := 21) (tgt := 36) C dX6_isOfKind_21 (by decide) (fun z => False.elim (ax_beq z (by decide))) (fun _ => ?_)
  refine ax_gets (pc := 24) C hS0 st_254 dX6_isOfKind_24 ?_
  refine ax_iload_2 (pc := 27) C dX6_isOfKind_27 ?_
  refine ax_sta (pc := 28) C hS0 (w := 0) 0 (by decide) rfl rfl dX6_isOfKind_28 ?_
  refine ax_istore_2 (pc := 29) C dX6_isOfKind_29 rfl ?_
  refine ax_iinc_3 (pc := 30) C dX6_isOfKind_30 (1) (by decide) rfl ?_
  refine ax_goto (pc := 33) (tgt := 4) C dX6_isOfKind_33 (by decide) ?_
  refine ax_iload_3 (pc := 4) C dX6_isOfKind_4 ?_
  refine ax_bipush (pc := 5) (v := 6) C dX6_isOfKind_5 (by decide) ?_
  refine ax_icmp_ge (pc := 7) (tgt := 36) C dX6_isOfKind_7 (by decide) (fun z => False.elim (absurd z (by decide))) (fun _ => ?_)
  refine ax_iload_2 (pc := 10) C dX6_isOfKind_10 ?_
  refine ax_iload_1 (pc := 11) C dX6_isOfKind_11 ?_
  refine ax_icmp_eq (pc := 12) (tgt := 36) C dX6_isOfKind_12 (by decide) (fun z => False.elim (absurd z (by decide))) (fun _ => ?_)
  refine ax_iload_2 (pc := 15) C dX6_isOfKind_15 ?_
  refine ax_iconst (pc := 16) (v := 0) C dX6_isOfKind_16 (by decide) ?_
  refine ax_iconst (pc := 17) (v := 5) C dX6_isOfKind_17 (by decide) ?_
  refine ax_callSi (pc := 18) C (w_X6_isWithin F) kX6_isWithin mX6_59 dX6_isOfKind_18 (by decide) rfl rfl (Nat.le_of_ble_eq_true rfl) rfl ⟨Nat.le_refl _, Nat.le_refl _⟩ ?_
  refine ax_if_eq (pc := 21) (tgt := 36) C dX6_isOfKind_21 (by decide) (fun z => False.elim (ax_beq z (by decide))) (fun _ => ?_)
  refine ax_gets (pc := 24) C hS0 st_254 dX6_isOfKind_24 ?_
  refine ax_iload_2 (pc := 27) C dX6_isOfKind_27 ?_
  refine ax_sta (pc := 28) C hS0 (w := 0) 0 (by decide) rfl rfl dX6_isOfKind_28 ?_
  refine ax_istore_2 (pc := 29) C dX6_isOfKind_29 rfl ?_
  refine ax_iinc_3 (pc := 30) C dX6_isOfKind_30 (1) (by decide) rfl ?_
  refine ax_goto (pc := 33) (tgt := 4) C dX6_isOfKind_33 (by decide) ?_
  refine ax_iload_3 (pc := 4) C dX6_isOfKind_4 ?_
  refine ax_bipush (pc := 5) (v := 6) C dX6_isOfKind_5 (by decide) ?_
  refine ax_icmp_ge (pc := 7) (tgt := 36) C dX6_isOfKind_7 (by decide) (fun _ => ?_) (fun z => False.elim (absurd z (by decide)))
  refine ax_iload_2 (pc := 36) C dX6_isOfKind_36 ?_
  refine ax_iload_1 (pc := 37) C dX6_isOfKind_37 ?_
  refine ax_icmp_ne (pc := 38) (tgt := 45) C dX6_isOfKind_38 (by decide) (fun _ => ?_) (fun z => False.elim (absurd z (by decide)))
  refine ax_iconst (pc := 45) (v := 0) C dX6_isOfKind_45 (by decide) ?_
  exact ax_zr (pc := 46) C rfl rfl dX6_isOfKind_46 rfl rfl

set_option maxRecDepth 20000 in
set_option maxHeartbeats 4000000 in
theorem w_X6_isOfKind_3_0 {Y : ax_Y} {ad : Nat → Nat} (F : ax_F Y) {l : Launch} {σ : ax_Z} : ax_m Y ad l iX6_isOfKind 1 σ [.int 3, .int 0] (some (.int 1)) σ := by
  obtain ⟨a0, hS0⟩ := ax_St_0 F
  refine ax_m.of F kX6_isOfKind.1 [some (.int (3)), some (.int (0)), none, none] rfl (Nat.le_of_ble_eq_true rfl) (fun x C => ?_)
  refine ax_iload_0 (pc := 0) C dX6_isOfKind_0 ?_
  refine ax_istore_2 (pc := 1) C dX6_isOfKind_1 rfl ?_
  refine ax_iconst (pc := 2) (v := 0) C dX6_isOfKind_2 (by decide) ?_
  refine ax_istore_3 (pc := 3) C dX6_isOfKind_3 rfl ?_
  refine ax_iload_3 (pc := 4) C dX6_isOfKind_4 ?_
  refine ax_bipush (pc := 5) (v := 6) C dX6_isOfKind_5 (by decide) ?_
  refine ax_icmp_ge (pc := 7) (tgt := 36) C dX6_isOfKind_7 (by decide) (fun z => False.elim (absurd z (by decide))) (fun _ => ?_)
  refine ax_iload_2 (pc := 10) C dX6_isOfKind_10 ?_
  refine ax_iload_1 (pc := 11) C dX6_isOfKind_11 ?_
  refine ax_icmp_eq (pc := 12) (tgt := 36) C dX6_isOfKind_12 (by decide) (fun z => False.elim (absurd z (by decide))) (fun _ => ?_)
  refine ax_iload_2 (pc := 15) C dX6_isOfKind_15 ?_
  refine ax_iconst (pc := 16) (v := 0) C dX6_isOfKind_16 (by decide) ?_
  refine ax_iconst (pc := 17) (v := 5) C dX6_isOfKind_17 (by decide) ?_
  refine ax_callSi (pc := 18) C (w_X6_isWithin F) kX6_isWithin mX6_59 dX6_isOfKind_18 (by decide) rfl rfl (Nat.le_of_ble_eq_true rfl) rfl ⟨Nat.le_refl _, Nat.le_refl _⟩ ?_
  refine ax_if_eq (pc := 21) (tgt := 36) C dX6_isOfKind_21 (by decide) (fun z => False.elim (ax_beq z (by decide))) (fun _ => ?_)
  refine ax_gets (pc := 24) C hS0 st_254 dX6_isOfKind_24 ?_
  refine ax_iload_2 (pc := 27) C dX6_isOfKind_27 ?_
  refine ax_sta (pc := 28) C hS0 (w := 1) 3 (by decide) rfl rfl dX6_isOfKind_28 ?_
  refine ax_istore_2 (pc := 29) C dX6_isOfKind_29 rfl ?_
  refine ax_iinc_3 (pc := 30) C dX6_isOfKind_30 (1) (by decide) rfl ?_
  refine ax_goto (pc := 33) (tgt := 4) C dX6_isOfKind_33 (by decide) ?_
  refine ax_iload_3 (pc := 4) C dX6_isOfKind_4 ?_
  refine ax_bipush (pc := 5) (v := 6) C dX6_isOfKind_5 (by decide) ?_
  refine ax_icmp_ge (pc := 7) (tgt := 36) C dX6_isOfKind_7 (by decide) (fun z => False.elim (absurd z (by decide))) (fun _ => ?_)
  refine ax_iload_2 (pc := 10) C dX6_isOfKind_10 ?_
  refine ax_iload_1 (pc := 11) C dX6_isOfKind_11 ?_
  refine ax_icmp_eq (pc := 12) (tgt := 36) C dX6_isOfKind_12 (by decide) (fun z => False.elim (absurd z (by decide))) (fun _ => ?_)
  refine ax_iload_2 (pc := 15) C dX6_isOfKind_15 ?_
  refine ax_iconst (pc := 16) (v := 0) C dX6_isOfKind_16 (by decide) ?_
  refine ax_iconst (pc := 17) (v := 5) C dX6_isOfKind_17 (by decide) ?_
  refine ax_callSi (pc := 18) C (w_X6_isWithin F) kX6_isWithin mX6_59 dX6_isOfKind_18 (by decide) rfl rfl (Nat.le_of_ble_eq_true rfl) rfl ⟨Nat.le_refl _, Nat.le_refl _⟩ ?_
  refine ax_if_eq (pc := 21) (tgt := 36) C dX6_isOfKind_21 (by decide) (fun z => False.elim (ax_beq z (by decide))) (fun _ => ?_)
  refine ax_gets (pc := 24) C hS0 st_254 dX6_isOfKind_24 ?_
  refine ax_iload_2 (pc := 27) C dX6_isOfKind_27 ?_
  refine ax_sta (pc := 28) C hS0 (w := 0) 1 (by decide) rfl rfl dX6_isOfKind_28 ?_
  refine ax_istore_2 (pc := 29) C dX6_isOfKind_29 rfl ?_
  refine ax_iinc_3 (pc := 30) C dX6_isOfKind_30 (1) (by decide) rfl ?_
  refine ax_goto (pc := 33) (tgt := 4) C dX6_isOfKind_33 (by decide) ?_
  refine ax_iload_3 (pc := 4) C dX6_isOfKind_4 ?_
  refine ax_bipush (pc := 5) (v := 6) C dX6_isOfKind_5 (by decide) ?_
  refine ax_icmp_ge (pc := 7) (tgt := 36) C dX6_isOfKind_7 (by decide) (fun z => False.elim (absurd z (by decide))) (fun _ => ?_)
  refine ax_iload_2 (pc := 10) C dX6_isOfKind_10 ?_
  refine ax_iload_1 (pc := 11) C dX6_isOfKind_11 ?_
  refine ax_icmp_eq (pc := 12) (tgt := 36) C dX6_isOfKind_12 (by decide) (fun _ => ?_) (fun z => False.elim (absurd z (by decide)))
  refine ax_iload_2 (pc := 36) C dX6_isOfKind_36 ?_
  refine ax_iload_1 (pc := 37) C dX6_isOfKind_37 ?_
  refine ax_icmp_ne (pc := 38) (tgt := 45) C dX6_isOfKind_38 (by decide) (fun z => False.elim (absurd z (by decide))) (fun _ => ?_)
  refine ax_iconst (pc := 41) (v := 1) C dX6_isOfKind_41 (by decide) ?_
  refine ax_goto (pc := 42) (tgt := 46) C dX6_isOfKind_42 (by decide) ?_
  exact ax_zr (pc := 46) C rfl rfl dX6_isOfKind_46 rfl rfl

set_option maxRecDepth 20000 in
set_option maxHeartbeats 4000000 in
theorem w_X6_isOfKind_3_1 {Y : ax_Y} {ad : Nat → Nat} (F : ax_F Y) {l : Launch} {σ : ax_Z} : ax_m Y ad l iX6_isOfKind 1 σ [.int 3, .int 1] (some (.int 1)) σ := by
  obtain ⟨a0, hS0⟩ := ax_St_0 F
  refine ax_m.of F kX6_isOfKind.1 [some (.int (3)), some (.int (1)), none, none] rfl (Nat.le_of_ble_eq_true rfl) (fun x C => ?_)
  refine ax_iload_0 (pc := 0) C dX6_isOfKind_0 ?_
  refine ax_istore_2 (pc := 1) C dX6_isOfKind_1 rfl ?_
  refine ax_iconst (pc := 2) (v := 0) C dX6_isOfKind_2 (by decide) ?_
  refine ax_istore_3 (pc := 3) C dX6_isOfKind_3 rfl ?_
  refine ax_iload_3 (pc := 4) C dX6_isOfKind_4 ?_
  refine ax_bipush (pc := 5) (v := 6) C dX6_isOfKind_5 (by decide) ?_
  refine ax_icmp_ge (pc := 7) (tgt := 36) C dX6_isOfKind_7 (by decide) (fun z => False.elim (absurd z (by decide))) (fun _ => ?_)
  refine ax_iload_2 (pc := 10) C dX6_isOfKind_10 ?_
  refine ax_iload_1 (pc := 11) C dX6_isOfKind_11 ?_
  refine ax_icmp_eq (pc := 12) (tgt := 36) C dX6_isOfKind_12 (by decide) (fun z => False.elim (absurd z (by decide))) (fun _ => ?_)
  refine ax_iload_2 (pc := 15) C dX6_isOfKind_15 ?_
  refine ax_iconst (pc := 16) (v := 0) C dX6_isOfKind_16 (by decide) ?_
  refine ax_iconst (pc := 17) (v := 5) C dX6_isOfKind_17 (by decide) ?_
  refine ax_callSi (pc := 18) C (w_X6_isWithin F) kX6_isWithin mX6_59 dX6_isOfKind_18 (by decide) rfl rfl (Nat.le_of_ble_eq_true rfl) rfl ⟨Nat.le_refl _, Nat.le_refl _⟩ ?_
  refine ax_if_eq (pc := 21) (tgt := 36) C dX6_isOfKind_21 (by decide) (fun z => False.elim (ax_beq z (by decide))) (fun _ => ?_)
  refine ax_gets (pc := 24) C hS0 st_254 dX6_isOfKind_24 ?_
  refine ax_iload_2 (pc := 27) C dX6_isOfKind_27 ?_
  refine ax_sta (pc := 28) C hS0 (w := 1) 3 (by decide) rfl rfl dX6_isOfKind_28 ?_
  refine ax_istore_2 (pc := 29) C dX6_isOfKind_29 rfl ?_
  refine ax_iinc_3 (pc := 30) C dX6_isOfKind_30 (1) (by decide) rfl ?_
  refine ax_goto (pc := 33) (tgt := 4) C dX6_isOfKind_33 (by decide) ?_
  refine ax_iload_3 (pc := 4) C dX6_isOfKind_4 ?_
  refine ax_bipush (pc := 5) (v := 6) C dX6_isOfKind_5 (by decide) ?_
  refine ax_icmp_ge (pc := 7) (tgt := 36) C dX6_isOfKind_7 (by decide) (fun z => False.elim (absurd z (by decide))) (fun _ => ?_)
  refine ax_iload_2 (pc := 10) C dX6_isOfKind_10 ?_
  refine ax_iload_1 (pc := 11) C dX6_isOfKind_11 ?_
  refine ax_icmp_eq (pc := 12) (tgt := 36) C dX6_isOfKind_12 (by decide) (fun _ => ?_) (fun z => False.elim (absurd z (by decide)))
  refine ax_iload_2 (pc := 36) C dX6_isOfKind_36 ?_
  refine ax_iload_1 (pc := 37) C dX6_isOfKind_37 ?_
  refine ax_icmp_ne (pc := 38) (tgt := 45) C dX6_isOfKind_38 (by decide) (fun z => False.elim (absurd z (by decide))) (fun _ => ?_)
  refine ax_iconst (pc := 41) (v := 1) C dX6_isOfKind_41 (by decide) ?_
  refine ax_goto (pc := 42) (tgt := 46) C dX6_isOfKind_42 (by decide) ?_
  exact ax_zr (pc := 46) C rfl rfl dX6_isOfKind_46 rfl rfl

set_option maxRecDepth 20000 in
set_option maxHeartbeats 4000000 in
theorem w_X6_isOfKind_3_2 {Y : ax_Y} {ad : Nat → Nat} (F : ax_F Y) {l : Launch} {σ : ax_Z} : ax_m Y ad l iX6_isOfKind 1 σ [.int 3, .int 2] (some (.int 0)) σ := by
  obtain ⟨a0, hS0⟩ := ax_St_0 F
  refine ax_m.of F kX6_isOfKind.1 [some (.int (3)), some (.int (2)), none, none] rfl (Nat.le_of_ble_eq_true rfl) (fun x C => ?_)
  refine ax_iload_0 (pc := 0) C dX6_isOfKind_0 ?_
  refine ax_istore_2 (pc := 1) C dX6_isOfKind_1 rfl ?_
  refine ax_iconst (pc := 2) (v := 0) C dX6_isOfKind_2 (by decide) ?_
  refine ax_istore_3 (pc := 3) C dX6_isOfKind_3 rfl ?_
  refine ax_iload_3 (pc := 4) C dX6_isOfKind_4 ?_
  refine ax_bipush (pc := 5) (v := 6) C dX6_isOfKind_5 (by decide) ?_
  refine ax_icmp_ge (pc := 7) (tgt := 36) C dX6_isOfKind_7 (by decide) (fun z => False.elim (absurd z (by decide))) (fun _ => ?_)
  refine ax_iload_2 (pc := 10) C dX6_isOfKind_10 ?_
  refine ax_iload_1 (pc := 11) C dX6_isOfKind_11 ?_
  refine ax_icmp_eq (pc := 12) (tgt := 36) C dX6_isOfKind_12 (by decide) (fun z => False.elim (absurd z (by decide))) (fun _ => ?_)
  refine ax_iload_2 (pc := 15) C dX6_isOfKind_15 ?_
  refine ax_iconst (pc := 16) (v := 0) C dX6_isOfKind_16 (by decide) ?_
  refine ax_iconst (pc := 17) (v := 5) C dX6_isOfKind_17 (by decide) ?_
  refine ax_callSi (pc := 18) C (w_X6_isWithin F) kX6_isWithin mX6_59 dX6_isOfKind_18 (by decide) rfl rfl (Nat.le_of_ble_eq_true rfl) rfl ⟨Nat.le_refl _, Nat.le_refl _⟩ ?_
  refine ax_if_eq (pc := 21) (tgt := 36) C dX6_isOfKind_21 (by decide) (fun z => False.elim (ax_beq z (by decide))) (fun _ => ?_)
  refine ax_gets (pc := 24) C hS0 st_254 dX6_isOfKind_24 ?_
  refine ax_iload_2 (pc := 27) C dX6_isOfKind_27 ?_
  refine ax_sta (pc := 28) C hS0 (w := 1) 3 (by decide) rfl rfl dX6_isOfKind_28 ?_
  refine ax_istore_2 (pc := 29) C dX6_isOfKind_29 rfl ?_
  refine ax_iinc_3 (pc := 30) C dX6_isOfKind_30 (1) (by decide) rfl ?_
  refine ax_goto (pc := 33) (tgt := 4) C dX6_isOfKind_33 (by decide) ?_
  refine ax_iload_3 (pc := 4) C dX6_isOfKind_4 ?_
  refine ax_bipush (pc := 5) (v := 6) C dX6_isOfKind_5 (by decide) ?_
  refine ax_icmp_ge (pc := 7) (tgt := 36) C dX6_isOfKind_7 (by decide) (fun z => False.elim (absurd z (by decide))) (fun _ => ?_)
  refine ax_iload_2 (pc := 10) C dX6_isOfKind_10 ?_
  refine ax_iload_1 (pc := 11) C dX6_isOfKind_11 ?_
  refine ax_icmp_eq (pc := 12) (tgt := 36) C dX6_isOfKind_12 (by decide) (fun z => False.elim (absurd z (by decide))) (fun _ => ?_)
  refine ax_iload_2 (pc := 15) C dX6_isOfKind_15 ?_
  refine ax_iconst (pc := 16) (v := 0) C dX6_isOfKind_16 (by decide) ?_
  refine ax_iconst (pc := 17) (v := 5) C dX6_isOfKind_17 (by decide) ?_
  refine ax_callSi (pc := 18) C (w_X6_isWithin F) kX6_isWithin mX6_59 dX6_isOfKind_18 (by decide) rfl rfl (Nat.le_of_ble_eq_true rfl) rfl ⟨Nat.le_refl _, Nat.le_refl _⟩ ?_
  refine ax_if_eq (pc := 21) (tgt := 36) C dX6_isOfKind_21 (by decide) (fun z => False.elim (ax_beq z (by decide))) (fun _ => ?_)
  refine ax_gets (pc := 24) C hS0 st_254 dX6_isOfKind_24 ?_
  refine ax_iload_2 (pc := 27) C dX6_isOfKind_27 ?_
  refine ax_sta (pc := 28) C hS0 (w := 0) 1 (by decide) rfl rfl dX6_isOfKind_28 ?_
  refine ax_istore_2 (pc := 29) C dX6_isOfKind_29 rfl ?_
  refine ax_iinc_3 (pc := 30) C dX6_isOfKind_30 (1) (by decide) rfl ?_
  refine ax_goto (pc := 33) (tgt := 4) C dX6_isOfKind_33 (by decide) ?_
  refine ax_iload_3 (pc := 4) C dX6_isOfKind_4 ?_
  refine ax_bipush (pc := 5) (v := 6) C dX6_isOfKind_5 (by decide) ?_
  refine ax_icmp_ge (pc := 7) (tgt := 36) C dX6_isOfKind_7 (by decide) (fun z => False.elim (absurd z (by decide))) (fun _ => ?_)
  refine ax_iload_2 (pc := 10) C dX6_isOfKind_10 ?_
  refine ax_iload_1 (pc := 11) C dX6_isOfKind_11 ?_
  refine ax_icmp_eq (pc := 12) (tgt := 36) C dX6_isOfKind_12 (by decide) (fun z => False.elim (absurd z (by decide))) (fun _ => ?_)
  refine ax_iload_2 (pc := 15) C dX6_isOfKind_15 ?_
  refine ax_iconst (pc := 16) (v := 0) C dX6_isOfKind_16 (by decide) ?_
  refine ax_iconst (pc := 17) (v := 5) C dX6_isOfKind_17 (by decide) ?_
  refine ax_callSi (pc := 18) C (w_X6_isWithin F) kX6_isWithin mX6_59 dX6_isOfKind_18 (by decide) rfl rfl (Nat.le_of_ble_eq_true rfl) rfl ⟨Nat.le_refl _, Nat.le_refl _⟩ ?_
  refine ax_if_eq (pc := 21) (tgt := 36) C dX6_isOfKind_21 (by decide) (fun z => False.elim (ax_beq z (by decide))) (fun _ => ?_)
  refine ax_gets (pc := 24) C hS0 st_254 dX6_isOfKind_24 ?_
  refine ax_iload_2 (pc := 27) C dX6_isOfKind_27 ?_
  refine ax_sta (pc := 28) C hS0 (w := 0) 0 (by decide) rfl rfl dX6_isOfKind_28 ?_
  refine ax_istore_2 (pc := 29) C dX6_isOfKind_29 rfl ?_
  refine ax_iinc_3 (pc := 30) C dX6_isOfKind_30 (1) (by decide) rfl ?_
  refine ax_goto (pc := 33) (tgt := 4) C dX6_isOfKind_33 (by decide) ?_
  refine ax_iload_3 (pc := 4) C dX6_isOfKind_4 ?_
  refine ax_bipush (pc := 5) (v := 6) C dX6_isOfKind_5 (by decide) ?_
  refine ax_icmp_ge (pc := 7) (tgt := 36) C dX6_isOfKind_7 (by decide) (fun z => False.elim (absurd z (by decide))) (fun _ => ?_)
  refine ax_iload_2 (pc := 10) C dX6_isOfKind_10 ?_
  refine ax_iload_1 (pc := 11) C dX6_isOfKind_11 ?_
  refine ax_icmp_eq (pc := 12) (tgt := 36) C dX6_isOfKind_12 (by decide) (fun z => False.elim (absurd z (by decide))) (fun _ => ?_)
  refine ax_iload_2 (pc := 15) C dX6_isOfKind_15 ?_
  refine ax_iconst (pc := 16) (v := 0) C dX6_isOfKind_16 (by decide) ?_
  refine ax_iconst (pc := 17) (v := 5) C dX6_isOfKind_17 (by decide) ?_
  refine ax_callSi (pc := 18) C (w_X6_isWithin F) kX6_isWithin mX6_59 dX6_isOfKind_18 (by decide) rfl rfl (Nat.le_of_ble_eq_true rfl) rfl ⟨Nat.le_refl _, Nat.le_refl _⟩ ?_
  refine ax_if_eq (pc := 21) (tgt := 36) C dX6_isOfKind_21 (by decide) (fun z => False.elim (ax_beq z (by decide))) (fun _ => ?_)
  refine ax_gets (pc := 24) C hS0 st_254 dX6_isOfKind_24 ?_
  refine ax_iload_2 (pc := 27) C dX6_isOfKind_27 ?_
  refine ax_sta (pc := 28) C hS0 (w := 0) 0 (by decide) rfl rfl dX6_isOfKind_28 ?_
  refine ax_istore_2 (pc := 29) C dX6_isOfKind_29 rfl ?_
  refine ax_iinc_3 (pc := 30) C dX6_isOfKind_30 (1) (by decide) rfl ?_
  refine ax_goto (pc := 33) (tgt := 4) C dX6_isOfKind_33 (by decide) ?_
  refine ax_iload_3 (pc := 4) C dX6_isOfKind_4 ?_
  refine ax_bipush (pc := 5) (v := 6) C dX6_isOfKind_5 (by decide) ?_
  refine ax_icmp_ge (pc := 7) (tgt := 36) C dX6_isOfKind_7 (by decide) (fun z => False.elim (absurd z (by decide))) (fun _ => ?_)
  refine ax_iload_2 (pc := 10) C dX6_isOfKind_10 ?_
  refine ax_iload_1 (pc := 11) C dX6_isOfKind_11 ?_
  refine ax_icmp_eq (pc := 12) (tgt := 36) C dX6_isOfKind_12 (by decide) (fun z => False.elim (absurd z (by decide))) (fun _ => ?_)
  refine ax_iload_2 (pc := 15) C dX6_isOfKind_15 ?_
  refine ax_iconst (pc := 16) (v := 0) C dX6_isOfKind_16 (by decide) ?_
  refine ax_iconst (pc := 17) (v := 5) C dX6_isOfKind_17 (by decide) ?_
  refine ax_callSi (pc := 18) C (w_X6_isWithin F) kX6_isWithin mX6_59 dX6_isOfKind_18 (by decide) rfl rfl (Nat.le_of_ble_eq_true rfl) rfl ⟨Nat.le_refl _, Nat.le_refl _⟩ ?_
  refine ax_if_eq (pc := 21) (tgt := 36) C dX6_isOfKind_21 (by decide) (fun z => False.elim (ax_beq z (by decide))) (fun _ => ?_)
  refine ax_gets (pc := 24) C hS0 st_254 dX6_isOfKind_24 ?_
  refine ax_iload_2 (pc := 27) C dX6_isOfKind_27 ?_
  refine ax_sta (pc := 28) C hS0 (w := 0) 0 (by decide) rfl rfl dX6_isOfKind_28 ?_
  refine ax_istore_2 (pc := 29) C dX6_isOfKind_29 rfl ?_
  refine ax_iinc_3 (pc := 30) C dX6_isOfKind_30 (1) (by decide) rfl ?_
  refine ax_goto (pc := 33) (tgt := 4) C dX6_isOfKind_33 (by decide) ?_
  refine ax_iload_3 (pc := 4) C dX6_isOfKind_4 ?_
  refine ax_bipush (pc := 5) (v := 6) C dX6_isOfKind_5 (by decide) ?_
  refine ax_icmp_ge (pc := 7) (tgt := 36) C dX6_isOfKind_7 (by decide) (fun z => False.elim (absurd z (by decide))) (fun _ => ?_)
  refine ax_iload_2 (pc := 10) C dX6_isOfKind_10 ?_
  refine ax_iload_1 (pc := 11) C dX6_isOfKind_11 ?_
  refine ax_icmp_eq (pc := 12) (tgt := 36) C dX6_isOfKind_12 (by decide) (fun z => False.elim (absurd z (by decide))) (fun _ => ?_)
  refine ax_iload_2 (pc := 15) C dX6_isOfKind_15 ?_
  refine ax_iconst (pc := 16) (v := 0) C dX6_isOfKind_16 (by decide) ?_
  refine ax_iconst (pc := 17) (v := 5) C dX6_isOfKind_17 (by decide) ?_
  refine ax_callSi (pc := 18) C (w_X6_isWithin F) kX6_isWithin mX6_59 dX6_isOfKind_18 (by decide) rfl rfl (Nat.le_of_ble_eq_true rfl) rfl ⟨Nat.le_refl _, Nat.le_refl _⟩ ?_
  refine ax_if_eq (pc := 21) (tgt := 36) C dX6_isOfKind_21 (by decide) (fun z => False.elim (ax_beq z (by decide))) (fun _ => ?_)
  refine ax_gets (pc := 24) C hS0 st_254 dX6_isOfKind_24 ?_
  refine ax_iload_2 (pc := 27) C dX6_isOfKind_27 ?_
  refine ax_sta (pc := 28) C hS0 (w := 0) 0 (by decide) rfl rfl dX6_isOfKind_28 ?_
  refine ax_istore_2 (pc := 29) C dX6_isOfKind_29 rfl ?_
  refine ax_iinc_3 (pc := 30) C dX6_isOfKind_30 (1) (by decide) rfl ?_
  refine ax_goto (pc := 33) (tgt := 4) C dX6_isOfKind_33 (by decide) ?_
  refine ax_iload_3 (pc := 4) C dX6_isOfKind_4 ?_
  refine ax_bipush (pc := 5) (v := 6) C dX6_isOfKind_5 (by decide) ?_
  refine ax_icmp_ge (pc := 7) (tgt := 36) C dX6_isOfKind_7 (by decide) (fun _ => ?_) (fun z => False.elim (absurd z (by decide)))
  refine ax_iload_2 (pc := 36) C dX6_isOfKind_36 ?_
  refine ax_iload_1 (pc := 37) C dX6_isOfKind_37 ?_
  refine ax_icmp_ne (pc := 38) (tgt := 45) C dX6_isOfKind_38 (by decide) (fun _ => ?_) (fun z => False.elim (absurd z (by decide)))
  refine ax_iconst (pc := 45) (v := 0) C dX6_isOfKind_45 (by decide) ?_
  exact ax_zr (pc := 46) C rfl rfl dX6_isOfKind_46 rfl rfl

set_option maxRecDepth 20000 in
set_option maxHeartbeats 4000000 in
theorem w_X6_isOfKind_3_3 {Y : ax_Y} {ad : Nat → Nat} (F : ax_F Y) {l : Launch} {σ : ax_Z} : ax_m Y ad l iX6_isOfKind 1 σ [.int 3, .int 3] (some (.int 1)) σ := by
  obtain ⟨a0, hS0⟩ := ax_St_0 F
  refine ax_m.of F kX6_isOfKind.1 [some (.int (3)), some (.int (3)), none, none] rfl (Nat.le_of_ble_eq_true rfl) (fun x C => ?_)
  refine ax_iload_0 (pc := 0) C dX6_isOfKind_0 ?_
  refine ax_istore_2 (pc := 1) C dX6_isOfKind_1 rfl ?_
  refine ax_iconst (pc := 2) (v := 0) C dX6_isOfKind_2 (by decide) ?_
  refine ax_istore_3 (pc := 3) C dX6_isOfKind_3 rfl ?_
  refine ax_iload_3 (pc := 4) C dX6_isOfKind_4 ?_
  refine ax_bipush (pc := 5) (v := 6) C dX6_isOfKind_5 (by decide) ?_
  refine ax_icmp_ge (pc := 7) (tgt := 36) C dX6_isOfKind_7 (by decide) (fun z => False.elim (absurd z (by decide))) (fun _ => ?_)
  refine ax_iload_2 (pc := 10) C dX6_isOfKind_10 ?_
  refine ax_iload_1 (pc := 11) C dX6_isOfKind_11 ?_
  refine ax_icmp_eq (pc := 12) (tgt := 36) C dX6_isOfKind_12 (by decide) (fun _ => ?_) (fun z => False.elim (absurd z (by decide)))
  refine ax_iload_2 (pc := 36) C dX6_isOfKind_36 ?_
  refine ax_iload_1 (pc := 37) C dX6_isOfKind_37 ?_
  refine ax_icmp_ne (pc := 38) (tgt := 45) C dX6_isOfKind_38 (by decide) (fun z => False.elim (absurd z (by decide))) (fun _ => ?_)
  refine ax_iconst (pc := 41) (v := 1) C dX6_isOfKind_41 (by decide) ?_
  refine ax_goto (pc := 42) (tgt := 46) C dX6_isOfKind_42 (by decide) ?_
  exact ax_zr (pc := 46) C rfl rfl dX6_isOfKind_46 rfl rfl

set_option maxRecDepth 20000 in
set_option maxHeartbeats 4000000 in
theorem w_X6_isOfKind_3_4 {Y : ax_Y} {ad : Nat → Nat} (F : ax_F Y) {l : Launch} {σ : ax_Z} : ax_m Y ad l iX6_isOfKind 1 σ [.int 3, .int 4] (some (.int 0)) σ := by
  obtain ⟨a0, hS0⟩ := ax_St_0 F
  refine ax_m.of F kX6_isOfKind.1 [some (.int (3)), some (.int (4)), none, none] rfl (Nat.le_of_ble_eq_true rfl) (fun x C => ?_)
  refine ax_iload_0 (pc := 0) C dX6_isOfKind_0 ?_
  refine ax_istore_2 (pc := 1) C dX6_isOfKind_1 rfl ?_
  refine ax_iconst (pc := 2) (v := 0) C dX6_isOfKind_2 (by decide) ?_
  refine ax_istore_3 (pc := 3) C dX6_isOfKind_3 rfl ?_
  refine ax_iload_3 (pc := 4) C dX6_isOfKind_4 ?_
  refine ax_bipush (pc := 5) (v := 6) C dX6_isOfKind_5 (by decide) ?_
  refine ax_icmp_ge (pc := 7) (tgt := 36) C dX6_isOfKind_7 (by decide) (fun z => False.elim (absurd z (by decide))) (fun _ => ?_)
  refine ax_iload_2 (pc := 10) C dX6_isOfKind_10 ?_
  refine ax_iload_1 (pc := 11) C dX6_isOfKind_11 ?_
  refine ax_icmp_eq (pc := 12) (tgt := 36) C dX6_isOfKind_12 (by decide) (fun z => False.elim (absurd z (by decide))) (fun _ => ?_)
  refine ax_iload_2 (pc := 15) C dX6_isOfKind_15 ?_
  refine ax_iconst (pc := 16) (v := 0) C dX6_isOfKind_16 (by decide) ?_
  refine ax_iconst (pc := 17) (v := 5) C dX6_isOfKind_17 (by decide) ?_
  refine ax_callSi (pc := 18) C (w_X6_isWithin F) kX6_isWithin mX6_59 dX6_isOfKind_18 (by decide) rfl rfl (Nat.le_of_ble_eq_true rfl) rfl ⟨Nat.le_refl _, Nat.le_refl _⟩ ?_
  refine ax_if_eq (pc := 21) (tgt := 36) C dX6_isOfKind_21 (by decide) (fun z => False.elim (ax_beq z (by decide))) (fun _ => ?_)
  refine ax_gets (pc := 24) C hS0 st_254 dX6_isOfKind_24 ?_
  refine ax_iload_2 (pc := 27) C dX6_isOfKind_27 ?_
  refine ax_sta (pc := 28) C hS0 (w := 1) 3 (by decide) rfl rfl dX6_isOfKind_28 ?_
  refine ax_istore_2 (pc := 29) C dX6_isOfKind_29 rfl ?_
  refine ax_iinc_3 (pc := 30) C dX6_isOfKind_30 (1) (by decide) rfl ?_
  refine ax_goto (pc := 33) (tgt := 4) C dX6_isOfKind_33 (by decide) ?_
  refine ax_iload_3 (pc := 4) C dX6_isOfKind_4 ?_
  refine ax_bipush (pc := 5) (v := 6) C dX6_isOfKind_5 (by decide) ?_
  refine ax_icmp_ge (pc := 7) (tgt := 36) C dX6_isOfKind_7 (by decide) (fun z => False.elim (absurd z (by decide))) (fun _ => ?_)
  refine ax_iload_2 (pc := 10) C dX6_isOfKind_10 ?_
  refine ax_iload_1 (pc := 11) C dX6_isOfKind_11 ?_
  refine ax_icmp_eq (pc := 12) (tgt := 36) C dX6_isOfKind_12 (by decide) (fun z => False.elim (absurd z (by decide))) (fun _ => ?_)
  refine ax_iload_2 (pc := 15) C dX6_isOfKind_15 ?_
  refine ax_iconst (pc := 16) (v := 0) C dX6_isOfKind_16 (by decide) ?_
  refine ax_iconst (pc := 17) (v := 5) C dX6_isOfKind_17 (by decide) ?_
  refine ax_callSi (pc := 18) C (w_X6_isWithin F) kX6_isWithin mX6_59 dX6_isOfKind_18 (by decide) rfl rfl (Nat.le_of_ble_eq_true rfl) rfl ⟨Nat.le_refl _, Nat.le_refl _⟩ ?_
  refine ax_if_eq (pc := 21) (tgt := 36) C dX6_isOfKind_21 (by decide) (fun z => False.elim (ax_beq z (by decide))) (fun _ => ?_)
  refine ax_gets (pc := 24) C hS0 st_254 dX6_isOfKind_24 ?_
  refine ax_iload_2 (pc := 27) C dX6_isOfKind_27 ?_
  refine ax_sta (pc := 28) C hS0 (w := 0) 1 (by decide) rfl rfl dX6_isOfKind_28 ?_
  refine ax_istore_2 (pc := 29) C dX6_isOfKind_29 rfl ?_
  refine ax_iinc_3 (pc := 30) C dX6_isOfKind_30 (1) (by decide) rfl ?_
  refine ax_goto (pc := 33) (tgt := 4) C dX6_isOfKind_33 (by decide) ?_
  refine ax_iload_3 (pc := 4) C dX6_isOfKind_4 ?_
  refine ax_bipush (pc := 5) (v := 6) C dX6_isOfKind_5 (by decide) ?_
  refine ax_icmp_ge (pc := 7) (tgt := 36) C dX6_isOfKind_7 (by decide) (fun z => False.elim (absurd z (by decide))) (fun _ => ?_)
  refine ax_iload_2 (pc := 10) C dX6_isOfKind_10 ?_
  refine ax_iload_1 (pc := 11) C dX6_isOfKind_11 ?_
  refine ax_icmp_eq (pc := 12) (tgt := 36) C dX6_isOfKind_12 (by decide) (fun z => False.elim (absurd z (by decide))) (fun _ => ?_)
  refine ax_iload_2 (pc := 15) C dX6_isOfKind_15 ?_
  refine ax_iconst (pc := 16) (v := 0) C dX6_isOfKind_16 (by decide) ?_
  refine ax_iconst (pc := 17) (v := 5) C dX6_isOfKind_17 (by decide) ?_
  refine ax_callSi (pc := 18) C (w_X6_isWithin F) kX6_isWithin mX6_59 dX6_isOfKind_18 (by decide) rfl rfl (Nat.le_of_ble_eq_true rfl) rfl ⟨Nat.le_refl _, Nat.le_refl _⟩ ?_
  refine ax_if_eq (pc := 21) (tgt := 36) C dX6_isOfKind_21 (by decide) (fun z => False.elim (ax_beq z (by decide))) (fun _ => ?_)
  refine ax_gets (pc := 24) C hS0 st_254 dX6_isOfKind_24 ?_
  refine ax_iload_2 (pc := 27) C dX6_isOfKind_27 ?_
  refine ax_sta (pc := 28) C hS0 (w := 0) 0 (by decide) rfl rfl dX6_isOfKind_28 ?_
  refine ax_istore_2 (pc := 29) C dX6_isOfKind_29 rfl ?_
  refine ax_iinc_3 (pc := 30) C dX6_isOfKind_30 (1) (by decide) rfl ?_
  refine ax_goto (pc := 33) (tgt := 4) C dX6_isOfKind_33 (by decide) ?_
  refine ax_iload_3 (pc := 4) C dX6_isOfKind_4 ?_
  refine ax_bipush (pc := 5) (v := 6) C dX6_isOfKind_5 (by decide) ?_
  refine ax_icmp_ge (pc := 7) (tgt := 36) C dX6_isOfKind_7 (by decide) (fun z => False.elim (absurd z (by decide))) (fun _ => ?_)
  refine ax_iload_2 (pc := 10) C dX6_isOfKind_10 ?_
  refine ax_iload_1 (pc := 11) C dX6_isOfKind_11 ?_
  refine ax_icmp_eq (pc := 12) (tgt := 36) C dX6_isOfKind_12 (by decide) (fun z => False.elim (absurd z (by decide))) (fun _ => ?_)
  refine ax_iload_2 (pc := 15) C dX6_isOfKind_15 ?_
  refine ax_iconst (pc := 16) (v := 0) C dX6_isOfKind_16 (by decide) ?_
  refine ax_iconst (pc := 17) (v := 5) C dX6_isOfKind_17 (by decide) ?_
  refine ax_callSi (pc := 18) C (w_X6_isWithin F) kX6_isWithin mX6_59 dX6_isOfKind_18 (by decide) rfl rfl (Nat.le_of_ble_eq_true rfl) rfl ⟨Nat.le_refl _, Nat.le_refl _⟩ ?_
  refine ax_if_eq (pc := 21) (tgt := 36) C dX6_isOfKind_21 (by decide) (fun z => False.elim (ax_beq z (by decide))) (fun _ => ?_)
  refine ax_gets (pc := 24) C hS0 st_254 dX6_isOfKind_24 ?_
  refine ax_iload_2 (pc := 27) C dX6_isOfKind_27 ?_
  refine ax_sta (pc := 28) C hS0 (w := 0) 0 (by decide) rfl rfl dX6_isOfKind_28 ?_
  refine ax_istore_2 (pc := 29) C dX6_isOfKind_29 rfl ?_
  refine ax_iinc_3 (pc := 30) C dX6_isOfKind_30 (1) (by decide) rfl ?_
  refine ax_goto (pc := 33) (tgt := 4) C dX6_isOfKind_33 (by decide) ?_
  refine ax_iload_3 (pc := 4) C dX6_isOfKind_4 ?_
  refine ax_bipush (pc := 5) (v := 6) C dX6_isOfKind_5 (by decide) ?_
  refine ax_icmp_ge (pc := 7) (tgt := 36) C dX6_isOfKind_7 (by decide) (fun z => False.elim (absurd z (by decide))) (fun _ => ?_)
  refine ax_iload_2 (pc := 10) C dX6_isOfKind_10 ?_
  refine ax_iload_1 (pc := 11) C dX6_isOfKind_11 ?_
  refine ax_icmp_eq (pc := 12) (tgt := 36) C dX6_isOfKind_12 (by decide) (fun z => False.elim (absurd z (by decide))) (fun _ => ?_)
  refine ax_iload_2 (pc := 15) C dX6_isOfKind_15 ?_
  refine ax_iconst (pc := 16) (v := 0) C dX6_isOfKind_16 (by decide) ?_
  refine ax_iconst (pc := 17) (v := 5) C dX6_isOfKind_17 (by decide) ?_
  refine ax_callSi (pc := 18) C (w_X6_isWithin F) kX6_isWithin mX6_59 dX6_isOfKind_18 (by decide) rfl rfl (Nat.le_of_ble_eq_true rfl) rfl ⟨Nat.le_refl _, Nat.le_refl _⟩ ?_
  refine ax_if_eq (pc := 21) (tgt := 36) C dX6_isOfKind_21 (by decide) (fun z => False.elim (ax_beq z (by decide))) (fun _ => ?_)
  refine ax_gets (pc := 24) C hS0 st_254 dX6_isOfKind_24 ?_
  refine ax_iload_2 (pc := 27) C dX6_isOfKind_27 ?_
  refine ax_sta (pc := 28) C hS0 (w := 0) 0 (by decide) rfl rfl dX6_isOfKind_28 ?_
  refine ax_istore_2 (pc := 29) C dX6_isOfKind_29 rfl ?_
  refine ax_iinc_3 (pc := 30) C dX6_isOfKind_30 (1) (by decide) rfl ?_
  refine ax_goto (pc := 33) (tgt := 4) C dX6_isOfKind_33 (by decide) ?_
  refine ax_iload_3 (pc := 4) C dX6_isOfKind_4 ?_
  refine ax_bipush (pc := 5) (v := 6) C dX6_isOfKind_5 (by decide) ?_
  refine ax_icmp_ge (pc := 7) (tgt := 36) C dX6_isOfKind_7 (by decide) (fun z => False.elim (absurd z (by decide))) (fun _ => ?_)
  refine ax_iload_2 (pc := 10) C dX6_isOfKind_10 ?_
  refine ax_iload_1 (pc := 11) C dX6_isOfKind_11 ?_
  refine ax_icmp_eq (pc := 12) (tgt := 36) C dX6_isOfKind_12 (by decide) (fun z => False.elim (absurd z (by decide))) (fun _ => ?_)
  refine ax_iload_2 (pc := 15) C dX6_isOfKind_15 ?_
  refine ax_iconst (pc := 16) (v := 0) C dX6_isOfKind_16 (by decide) ?_
  refine ax_iconst (pc := 17) (v := 5) C dX6_isOfKind_17 (by decide) ?_
  refine ax_callSi (pc := 18) C (w_X6_isWithin F) kX6_isWithin mX6_59 dX6_isOfKind_18 (by decide) rfl rfl (Nat.le_of_ble_eq_true rfl) rfl ⟨Nat.le_refl _, Nat.le_refl _⟩ ?_
  refine ax_if_eq (pc := 21) (tgt := 36) C dX6_isOfKind_21 (by decide) (fun z => False.elim (ax_beq z (by decide))) (fun _ => ?_)
  refine ax_gets (pc := 24) C hS0 st_254 dX6_isOfKind_24 ?_
  refine ax_iload_2 (pc := 27) C dX6_isOfKind_27 ?_
  refine ax_sta (pc := 28) C hS0 (w := 0) 0 (by decide) rfl rfl dX6_isOfKind_28 ?_
  refine ax_istore_2 (pc := 29) C dX6_isOfKind_29 rfl ?_
  refine ax_iinc_3 (pc := 30) C dX6_isOfKind_30 (1) (by decide) rfl ?_
  refine ax_goto (pc := 33) (tgt := 4) C dX6_isOfKind_33 (by decide) ?_
  refine ax_iload_3 (pc := 4) C dX6_isOfKind_4 ?_
  refine ax_bipush (pc := 5) (v := 6) C dX6_isOfKind_5 (by decide) ?_
  refine ax_icmp_ge (pc := 7) (tgt := 36) C dX6_isOfKind_7 (by decide) (fun _ => ?_) (fun z => False.elim (absurd z (by decide)))
  refine ax_iload_2 (pc := 36) C dX6_isOfKind_36 ?_
  refine ax_iload_1 (pc := 37) C dX6_isOfKind_37 ?_
  refine ax_icmp_ne (pc := 38) (tgt := 45) C dX6_isOfKind_38 (by decide) (fun _ => ?_) (fun z => False.elim (absurd z (by decide)))
  refine ax_iconst (pc := 45) (v := 0) C dX6_isOfKind_45 (by decide) ?_
  exact ax_zr (pc := 46) C rfl rfl dX6_isOfKind_46 rfl rfl

set_option maxRecDepth 20000 in
set_option maxHeartbeats 4000000 in
theorem w_X6_isOfKind_3_5 {Y : ax_Y} {ad : Nat → Nat} (F : ax_F Y) {l : Launch} {σ : ax_Z} : ax_m Y ad l iX6_isOfKind 1 σ [.int 3, .int 5] (some (.int 0)) σ := by
  obtain ⟨a0, hS0⟩ := ax_St_0 F
  refine ax_m.of F kX6_isOfKind.1 [some (.int (3)), some (.int (5)), none, none] rfl (Nat.le_of_ble_eq_true rfl) (fun x C => ?_)
  refine ax_iload_0 (pc := 0) C dX6_isOfKind_0 ?_
  refine ax_istore_2 (pc := 1) C dX6_isOfKind_1 rfl ?_
  refine ax_iconst (pc := 2) (v := 0) C dX6_isOfKind_2 (by decide) ?_
  refine ax_istore_3 (pc := 3) C dX6_isOfKind_3 rfl ?_
  refine ax_iload_3 (pc := 4) C dX6_isOfKind_4 ?_
  refine ax_bipush (pc := 5) (v := 6) C dX6_isOfKind_5 (by decide) ?_
  refine ax_icmp_ge (pc := 7) (tgt := 36) C dX6_isOfKind_7 (by decide) (fun z => False.elim (absurd z (by decide))) (fun _ => ?_)
  refine ax_iload_2 (pc := 10) C dX6_isOfKind_10 ?_
  refine ax_iload_1 (pc := 11) C dX6_isOfKind_11 ?_
  refine ax_icmp_eq (pc := 12) (tgt := 36) C dX6_isOfKind_12 (by decide) (fun z => False.elim (absurd z (by decide))) (fun _ => ?_)
  refine ax_iload_2 (pc := 15) C dX6_isOfKind_15 ?_
  refine ax_iconst (pc := 16) (v := 0) C dX6_isOfKind_16 (by decide) ?_
  refine ax_iconst (pc := 17) (v := 5) C dX6_isOfKind_17 (by decide) ?_
  refine ax_callSi (pc := 18) C (w_X6_isWithin F) kX6_isWithin mX6_59 dX6_isOfKind_18 (by decide) rfl rfl (Nat.le_of_ble_eq_true rfl) rfl ⟨Nat.le_refl _, Nat.le_refl _⟩ ?_
  refine ax_if_eq (pc := 21) (tgt := 36) C dX6_isOfKind_21 (by decide) (fun z => False.elim (ax_beq z (by decide))) (fun _ => ?_)
  refine ax_gets (pc := 24) C hS0 st_254 dX6_isOfKind_24 ?_
  refine ax_iload_2 (pc := 27) C dX6_isOfKind_27 ?_
  refine ax_sta (pc := 28) C hS0 (w := 1) 3 (by decide) rfl rfl dX6_isOfKind_28 ?_
  refine ax_istore_2 (pc := 29) C dX6_isOfKind_29 rfl ?_
  refine ax_iinc_3 (pc := 30) C dX6_isOfKind_30 (1) (by decide) rfl ?_
  refine ax_goto (pc := 33) (tgt := 4) C dX6_isOfKind_33 (by decide) ?_
  refine ax_iload_3 (pc := 4) C dX6_isOfKind_4 ?_
  refine ax_bipush (pc := 5) (v := 6) C dX6_isOfKind_5 (by decide) ?_
  refine ax_icmp_ge (pc := 7) (tgt := 36) C dX6_isOfKind_7 (by decide) (fun z => False.elim (absurd z (by decide))) (fun _ => ?_)
  refine ax_iload_2 (pc := 10) C dX6_isOfKind_10 ?_
  refine ax_iload_1 (pc := 11) C dX6_isOfKind_11 ?_
  refine ax_icmp_eq (pc := 12) (tgt := 36) C dX6_isOfKind_12 (by decide) (fun z => False.elim (absurd z (by decide))) (fun _ => ?_)
  refine ax_iload_2 (pc := 15) C dX6_isOfKind_15 ?_
  refine ax_iconst (pc := 16) (v := 0) C dX6_isOfKind_16 (by decide) ?_
  refine ax_iconst (pc := 17) (v := 5) C dX6_isOfKind_17 (by decide) ?_
  refine ax_callSi (pc := 18) C (w_X6_isWithin F) kX6_isWithin mX6_59 dX6_isOfKind_18 (by decide) rfl rfl (Nat.le_of_ble_eq_true rfl) rfl ⟨Nat.le_refl _, Nat.le_refl _⟩ ?_
  refine ax_if_eq (pc := 21) (tgt := 36) C dX6_isOfKind_21 (by decide) (fun z => False.elim (ax_beq z (by decide))) (fun _ => ?_)
  refine ax_gets (pc := 24) C hS0 st_254 dX6_isOfKind_24 ?_
  refine ax_iload_2 (pc := 27) C dX6_isOfKind_27 ?_
  refine ax_sta (pc := 28) C hS0 (w := 0) 1 (by decide) rfl rfl dX6_isOfKind_28 ?_
  refine ax_istore_2 (pc := 29) C dX6_isOfKind_29 rfl ?_
  refine ax_iinc_3 (pc := 30) C dX6_isOfKind_30 (1) (by decide) rfl ?_
  refine ax_goto (pc := 33) (tgt := 4) C dX6_isOfKind_33 (by decide) ?_
  refine ax_iload_3 (pc := 4) C dX6_isOfKind_4 ?_
  refine ax_bipush (pc := 5) (v := 6) C dX6_isOfKind_5 (by decide) ?_
  refine ax_icmp_ge (pc := 7) (tgt := 36) C dX6_isOfKind_7 (by decide) (fun z => False.elim (absurd z (by decide))) (fun _ => ?_)
  refine ax_iload_2 (pc := 10) C dX6_isOfKind_10 ?_
  refine ax_iload_1 (pc := 11) C dX6_isOfKind_11 ?_
  refine ax_icmp_eq (pc := 12) (tgt := 36) C dX6_isOfKind_12 (by decide) (fun z => False.elim (absurd z (by decide))) (fun _ => ?_)
  refine ax_iload_2 (pc := 15) C dX6_isOfKind_15 ?_
  refine ax_iconst (pc := 16) (v := 0) C dX6_isOfKind_16 (by decide) ?_
  refine ax_iconst (pc := 17) (v := 5) C dX6_isOfKind_17 (by decide) ?_
  refine ax_callSi (pc := 18) C (w_X6_isWithin F) kX6_isWithin mX6_59 dX6_isOfKind_18 (by decide) rfl rfl (Nat.le_of_ble_eq_true rfl) rfl ⟨Nat.le_refl _, Nat.le_refl _⟩ ?_
  refine ax_if_eq (pc := 21) (tgt := 36) C dX6_isOfKind_21 (by decide) (fun z => False.elim (ax_beq z (by decide))) (fun _ => ?_)
  refine ax_gets (pc := 24) C hS0 st_254 dX6_isOfKind_24 ?_
  refine ax_iload_2 (pc := 27) C dX6_isOfKind_27 ?_
  refine ax_sta (pc := 28) C hS0 (w := 0) 0 (by decide) rfl rfl dX6_isOfKind_28 ?_
  refine ax_istore_2 (pc := 29) C dX6_isOfKind_29 rfl ?_
  refine ax_iinc_3 (pc := 30) C dX6_isOfKind_30 (1) (by decide) rfl ?_
  refine ax_goto (pc := 33) (tgt := 4) C dX6_isOfKind_33 (by decide) ?_
  refine ax_iload_3 (pc := 4) C dX6_isOfKind_4 ?_
  refine ax_bipush (pc := 5) (v := 6) C dX6_isOfKind_5 (by decide) ?_
  refine ax_icmp_ge (pc := 7) (tgt := 36) C dX6_isOfKind_7 (by decide) (fun z => False.elim (absurd z (by decide))) (fun _ => ?_)
  refine ax_iload_2 (pc := 10) C dX6_isOfKind_10 ?_
  refine ax_iload_1 (pc := 11) C dX6_isOfKind_11 ?_
  refine ax_icmp_eq (pc := 12) (tgt := 36) C dX6_isOfKind_12 (by decide) (fun z => False.elim (absurd z (by decide))) (fun _ => ?_)
  refine ax_iload_2 (pc := 15) C dX6_isOfKind_15 ?_
  refine ax_iconst (pc := 16) (v := 0) C dX6_isOfKind_16 (by decide) ?_
  refine ax_iconst (pc := 17) (v := 5) C dX6_isOfKind_17 (by decide) ?_
  refine ax_callSi (pc := 18) C (w_X6_isWithin F) kX6_isWithin mX6_59 dX6_isOfKind_18 (by decide) rfl rfl (Nat.le_of_ble_eq_true rfl) rfl ⟨Nat.le_refl _, Nat.le_refl _⟩ ?_
  refine ax_if_eq (pc := 21) (tgt := 36) C dX6_isOfKind_21 (by decide) (fun z => False.elim (ax_beq z (by decide))) (fun _ => ?_)
  refine ax_gets (pc := 24) C hS0 st_254 dX6_isOfKind_24 ?_
  refine ax_iload_2 (pc := 27) C dX6_isOfKind_27 ?_
  refine ax_sta (pc := 28) C hS0 (w := 0) 0 (by decide) rfl rfl dX6_isOfKind_28 ?_
  refine ax_istore_2 (pc := 29) C dX6_isOfKind_29 rfl ?_
  refine ax_iinc_3 (pc := 30) C dX6_isOfKind_30 (1) (by decide) rfl ?_
  refine ax_goto (pc := 33) (tgt := 4) C dX6_isOfKind_33 (by decide) ?_
  refine ax_iload_3 (pc := 4) C dX6_isOfKind_4 ?_
  refine ax_bipush (pc := 5) (v := 6) C dX6_isOfKind_5 (by decide) ?_
  refine ax_icmp_ge (pc := 7) (tgt := 36) C dX6_isOfKind_7 (by decide) (fun z => False.elim (absurd z (by decide))) (fun _ => ?_)
  refine ax_iload_2 (pc := 10) C dX6_isOfKind_10 ?_
  refine ax_iload_1 (pc := 11) C dX6_isOfKind_11 ?_
  refine ax_icmp_eq (pc := 12) (tgt := 36) C dX6_isOfKind_12 (by decide) (fun z => False.elim (absurd z (by decide))) (fun _ => ?_)
  refine ax_iload_2 (pc := 15) C dX6_isOfKind_15 ?_
  refine ax_iconst (pc := 16) (v := 0) C dX6_isOfKind_16 (by decide) ?_
  refine ax_iconst (pc := 17) (v := 5) C dX6_isOfKind_17 (by decide) ?_
  refine ax_callSi (pc := 18) C (w_X6_isWithin F) kX6_isWithin mX6_59 dX6_isOfKind_18 (by decide) rfl rfl (Nat.le_of_ble_eq_true rfl) rfl ⟨Nat.le_refl _, Nat.le_refl _⟩ ?_
  refine ax_if_eq (pc := 21) (tgt := 36) C dX6_isOfKind_21 (by decide) (fun z => False.elim (ax_beq z (by decide))) (fun _ => ?_)
  refine ax_gets (pc := 24) C hS0 st_254 dX6_isOfKind_24 ?_
  refine ax_iload_2 (pc := 27) C dX6_isOfKind_27 ?_
  refine ax_sta (pc := 28) C hS0 (w := 0) 0 (by decide) rfl rfl dX6_isOfKind_28 ?_
  refine ax_istore_2 (pc := 29) C dX6_isOfKind_29 rfl ?_
  refine ax_iinc_3 (pc := 30) C dX6_isOfKind_30 (1) (by decide) rfl ?_
  refine ax_goto (pc := 33) (tgt := 4) C dX6_isOfKind_33 (by decide) ?_
  refine ax_iload_3 (pc := 4) C dX6_isOfKind_4 ?_
  refine ax_bipush (pc := 5) (v := 6) C dX6_isOfKind_5 (by decide) ?_
  refine ax_icmp_ge (pc := 7) (tgt := 36) C dX6_isOfKind_7 (by decide) (fun z => False.elim (absurd z (by decide))) (fun _ => ?_)
  refine ax_iload_2 (pc := 10) C dX6_isOfKind_10 ?_
  refine ax_iload_1 (pc := 11) C dX6_isOfKind_11 ?_
  refine ax_icmp_eq (pc := 12) (tgt := 36) C dX6_isOfKind_12 (by decide) (fun z => False.elim (absurd z (by decide))) (fun _ => ?_)
  refine ax_iload_2 (pc := 15) C dX6_isOfKind_15 ?_
  refine ax_iconst (pc := 16) (v := 0) C dX6_isOfKind_16 (by decide) ?_
  refine ax_iconst (pc := 17) (v := 5) C dX6_isOfKind_17 (by decide) ?_
  refine ax_callSi (pc := 18) C (w_X6_isWithin F) kX6_isWithin mX6_59 dX6_isOfKind_18 (by decide) rfl rfl (Nat.le_of_ble_eq_true rfl) rfl ⟨Nat.le_refl _, Nat.le_refl _⟩ ?_
  refine ax_if_eq (pc := 21) (tgt := 36) C dX6_isOfKind_21 (by decide) (fun z => False.elim (ax_beq z (by decide))) (fun _ => ?_)
  refine ax_gets (pc := 24) C hS0 st_254 dX6_isOfKind_24 ?_
  refine ax_iload_2 (pc := 27) C dX6_isOfKind_27 ?_
  refine ax_sta (pc := 28) C hS0 (w := 0) 0 (by decide) rfl rfl dX6_isOfKind_28 ?_
  refine ax_istore_2 (pc := 29) C dX6_isOfKind_29 rfl ?_
  refine ax_iinc_3 (pc := 30) C dX6_isOfKind_30 (1) (by decide) rfl ?_
  refine ax_goto (pc := 33) (tgt := 4) C dX6_isOfKind_33 (by decide) ?_
  refine ax_iload_3 (pc := 4) C dX6_isOfKind_4 ?_
  refine ax_bipush (pc := 5) (v := 6) C dX6_isOfKind_5 (by decide) ?_
  refine ax_icmp_ge (pc := 7) (tgt := 36) C dX6_isOfKind_7 (by decide) (fun _ => ?_) (fun z => False.elim (absurd z (by decide)))
  refine ax_iload_2 (pc := 36) C dX6_isOfKind_36 ?_
  refine ax_iload_1 (pc := 37) C dX6_isOfKind_37 ?_
  refine ax_icmp_ne (pc := 38) (tgt := 45) C dX6_isOfKind_38 (by decide) (fun _ => ?_) (fun z => False.elim (absurd z (by decide)))
  refine ax_iconst (pc := 45) (v := 0) C dX6_isOfKind_45 (by decide) ?_
  exact ax_zr (pc := 46) C rfl rfl dX6_isOfKind_46 rfl rfl

set_option maxRecDepth 20000 in
set_option maxHeartbeats 4000000 in
theorem w_X6_isOfKind_4_0 {Y : ax_Y} {ad : Nat → Nat} (F : ax_F Y) {l : Launch} {σ : ax_Z} : ax_m Y ad l iX6_isOfKind 1 σ [.int 4, .int 0] (some (.int 1)) σ := by
  obtain ⟨a0, hS0⟩ := ax_St_0 F
  refine ax_m.of F kX6_isOfKind.1 [some (.int (4)), some (.int (0)), none, none] rfl (Nat.le_of_ble_eq_true rfl) (fun x C => ?_)
  refine ax_iload_0 (pc := 0) C dX6_isOfKind_0 ?_
  refine ax_istore_2 (pc := 1) C dX6_isOfKind_1 rfl ?_
  refine ax_iconst (pc := 2) (v := 0) C dX6_isOfKind_2 (by decide) ?_
  refine ax_istore_3 (pc := 3) C dX6_isOfKind_3 rfl ?_
  refine ax_iload_3 (pc := 4) C dX6_isOfKind_4 ?_
  refine ax_bipush (pc := 5) (v := 6) C dX6_isOfKind_5 (by decide) ?_
  refine ax_icmp_ge (pc := 7) (tgt := 36) C dX6_isOfKind_7 (by decide) (fun z => False.elim (absurd z (by decide))) (fun _ => ?_)
  refine ax_iload_2 (pc := 10) C dX6_isOfKind_10 ?_
  refine ax_iload_1 (pc := 11) C dX6_isOfKind_11 ?_
  refine ax_icmp_eq (pc := 12) (tgt := 36) C dX6_isOfKind_12 (by decide) (fun z => False.elim (absurd z (by decide))) (fun _ => ?_)
  refine ax_iload_2 (pc := 15) C dX6_isOfKind_15 ?_
  refine ax_iconst (pc := 16) (v := 0) C dX6_isOfKind_16 (by decide) ?_
  refine ax_iconst (pc := 17) (v := 5) C dX6_isOfKind_17 (by decide) ?_
  refine ax_callSi (pc := 18) C (w_X6_isWithin F) kX6_isWithin mX6_59 dX6_isOfKind_18 (by decide) rfl rfl (Nat.le_of_ble_eq_true rfl) rfl ⟨Nat.le_refl _, Nat.le_refl _⟩ ?_
  refine ax_if_eq (pc := 21) (tgt := 36) C dX6_isOfKind_21 (by decide) (fun z => False.elim (ax_beq z (by decide))) (fun _ => ?_)
  refine ax_gets (pc := 24) C hS0 st_254 dX6_isOfKind_24 ?_
  refine ax_iload_2 (pc := 27) C dX6_isOfKind_27 ?_
  refine ax_sta (pc := 28) C hS0 (w := 0) 4 (by decide) rfl rfl dX6_isOfKind_28 ?_
  refine ax_istore_2 (pc := 29) C dX6_isOfKind_29 rfl ?_
  refine ax_iinc_3 (pc := 30) C dX6_isOfKind_30 (1) (by decide) rfl ?_
  refine ax_goto (pc := 33) (tgt := 4) C dX6_isOfKind_33 (by decide) ?_
  refine ax_iload_3 (pc := 4) C dX6_isOfKind_4 ?_
  refine ax_bipush (pc := 5) (v := 6) C dX6_isOfKind_5 (by decide) ?_
  refine ax_icmp_ge (pc := 7) (tgt := 36) C dX6_isOfKind_7 (by decide) (fun z => False.elim (absurd z (by decide))) (fun _ => ?_)
  refine ax_iload_2 (pc := 10) C dX6_isOfKind_10 ?_
  refine ax_iload_1 (pc := 11) C dX6_isOfKind_11 ?_
  refine ax_icmp_eq (pc := 12) (tgt := 36) C dX6_isOfKind_12 (by decide) (fun _ => ?_) (fun z => False.elim (absurd z (by decide)))
  refine ax_iload_2 (pc := 36) C dX6_isOfKind_36 ?_
  refine ax_iload_1 (pc := 37) C dX6_isOfKind_37 ?_
  refine ax_icmp_ne (pc := 38) (tgt := 45) C dX6_isOfKind_38 (by decide) (fun z => False.elim (absurd z (by decide))) (fun _ => ?_)
  refine ax_iconst (pc := 41) (v := 1) C dX6_isOfKind_41 (by decide) ?_
  refine ax_goto (pc := 42) (tgt := 46) C dX6_isOfKind_42 (by decide) ?_
  exact ax_zr (pc := 46) C rfl rfl dX6_isOfKind_46 rfl rfl

set_option maxRecDepth 20000 in
set_option maxHeartbeats 4000000 in
theorem w_X6_isOfKind_4_1 {Y : ax_Y} {ad : Nat → Nat} (F : ax_F Y) {l : Launch} {σ : ax_Z} : ax_m Y ad l iX6_isOfKind 1 σ [.int 4, .int 1] (some (.int 0)) σ := by
  obtain ⟨a0, hS0⟩ := ax_St_0 F
  refine ax_m.of F kX6_isOfKind.1 [some (.int (4)), some (.int (1)), none, none] rfl (Nat.le_of_ble_eq_true rfl) (fun x C => ?_)
  refine ax_iload_0 (pc := 0) C dX6_isOfKind_0 ?_
  refine ax_istore_2 (pc := 1) C dX6_isOfKind_1 rfl ?_
  refine ax_iconst (pc := 2) (v := 0) C dX6_isOfKind_2 (by decide) ?_
  refine ax_istore_3 (pc := 3) C dX6_isOfKind_3 rfl ?_
  refine ax_iload_3 (pc := 4) C dX6_isOfKind_4 ?_
  refine ax_bipush (pc := 5) (v := 6) C dX6_isOfKind_5 (by decide) ?_
  refine ax_icmp_ge (pc := 7) (tgt := 36) C dX6_isOfKind_7 (by decide) (fun z => False.elim (absurd z (by decide))) (fun _ => ?_)
  refine ax_iload_2 (pc := 10) C dX6_isOfKind_10 ?_
  refine ax_iload_1 (pc := 11) C dX6_isOfKind_11 ?_
  refine ax_icmp_eq (pc := 12) (tgt := 36) C dX6_isOfKind_12 (by decide) (fun z => False.elim (absurd z (by decide))) (fun _ => ?_)
  refine ax_iload_2 (pc := 15) C dX6_isOfKind_15 ?_
  refine ax_iconst (pc := 16) (v := 0) C dX6_isOfKind_16 (by decide) ?_
  refine ax_iconst (pc := 17) (v := 5) C dX6_isOfKind_17 (by decide) ?_
  refine ax_callSi (pc := 18) C (w_X6_isWithin F) kX6_isWithin mX6_59 dX6_isOfKind_18 (by decide) rfl rfl (Nat.le_of_ble_eq_true rfl) rfl ⟨Nat.le_refl _, Nat.le_refl _⟩ ?_
  refine ax_if_eq (pc := 21) (tgt := 36) C dX6_isOfKind_21 (by decide) (fun z => False.elim (ax_beq z (by decide))) (fun _ => ?_)
  refine ax_gets (pc := 24) C hS0 st_254 dX6_isOfKind_24 ?_
  refine ax_iload_2 (pc := 27) C dX6_isOfKind_27 ?_
  refine ax_sta (pc := 28) C hS0 (w := 0) 4 (by decide) rfl rfl dX6_isOfKind_28 ?_
  refine ax_istore_2 (pc := 29) C dX6_isOfKind_29 rfl ?_
  refine ax_iinc_3 (pc := 30) C dX6_isOfKind_30 (1) (by decide) rfl ?_
  refine ax_goto (pc := 33) (tgt := 4) C dX6_isOfKind_33 (by decide) ?_
  refine ax_iload_3 (pc := 4) C dX6_isOfKind_4 ?_
  refine ax_bipush (pc := 5) (v := 6) C dX6_isOfKind_5 (by decide) ?_
  refine ax_icmp_ge (pc := 7) (tgt := 36) C dX6_isOfKind_7 (by decide) (fun z => False.elim (absurd z (by decide))) (fun _ => ?_)
  refine ax_iload_2 (pc := 10) C dX6_isOfKind_10 ?_
  refine ax_iload_1 (pc := 11) C dX6_isOfKind_11 ?_
  refine ax_icmp_eq (pc := 12) (tgt := 36) C dX6_isOfKind_12 (by decide) (fun z => False.elim (absurd z (by decide))) (fun _ => ?_)
  refine ax_iload_2 (pc := 15) C dX6_isOfKind_15 ?_
  refine ax_iconst (pc := 16) (v := 0) C dX6_isOfKind_16 (by decide) ?_
  refine ax_iconst (pc := 17) (v := 5) C dX6_isOfKind_17 (by decide) ?_
  refine ax_callSi (pc := 18) C (w_X6_isWithin F) kX6_isWithin mX6_59 dX6_isOfKind_18 (by decide) rfl rfl (Nat.le_of_ble_eq_true rfl) rfl ⟨Nat.le_refl _, Nat.le_refl _⟩ ?_
  refine ax_if_eq (pc := 21) (tgt := 36) C dX6_isOfKind_21 (by decide) (fun z => False.elim (ax_beq z (by decide))) (fun _ => ?_)
  refine ax_gets (pc := 24) C hS0 st_254 dX6_isOfKind_24 ?_
  refine ax_iload_2 (pc := 27) C dX6_isOfKind_27 ?_
  refine ax_sta (pc := 28) C hS0 (w := 0) 0 (by decide) rfl rfl dX6_isOfKind_28 ?_
  refine ax_istore_2 (pc := 29) C dX6_isOfKind_29 rfl ?_
  refine ax_iinc_3 (pc := 30) C dX6_isOfKind_30 (1) (by decide) rfl ?_
  refine ax_goto (pc := 33) (tgt := 4) C dX6_isOfKind_33 (by decide) ?_
  refine ax_iload_3 (pc := 4) C dX6_isOfKind_4 ?_
  refine ax_bipush (pc := 5) (v := 6) C dX6_isOfKind_5 (by decide) ?_
  refine ax_icmp_ge (pc := 7) (tgt := 36) C dX6_isOfKind_7 (by decide) (fun z => False.elim (absurd z (by decide))) (fun _ => ?_)
  refine ax_iload_2 (pc := 10) C dX6_isOfKind_10 ?_
  refine ax_iload_1 (pc := 11) C dX6_isOfKind_11 ?_
  refine ax_icmp_eq (pc := 12) (tgt := 36) C dX6_isOfKind_12 (by decide) (fun z => False.elim (absurd z (by decide))) (fun _ => ?_)
  refine ax_iload_2 (pc := 15) C dX6_isOfKind_15 ?_
  refine ax_iconst (pc := 16) (v := 0) C dX6_isOfKind_16 (by decide) ?_
  refine ax_iconst (pc := 17) (v := 5) C dX6_isOfKind_17 (by decide) ?_
  refine ax_callSi (pc := 18) C (w_X6_isWithin F) kX6_isWithin mX6_59 dX6_isOfKind_18 (by decide) rfl rfl (Nat.le_of_ble_eq_true rfl) rfl ⟨Nat.le_refl _, Nat.le_refl _⟩ ?_
  refine ax_if_eq (pc := 21) (tgt := 36) C dX6_isOfKind_21 (by decide) (fun z => False.elim (ax_beq z (by decide))) (fun _ => ?_)
  refine ax_gets (pc := 24) C hS0 st_254 dX6_isOfKind_24 ?_
  refine ax_iload_2 (pc := 27) C dX6_isOfKind_27 ?_
  refine ax_sta (pc := 28) C hS0 (w := 0) 0 (by decide) rfl rfl dX6_isOfKind_28 ?_
  refine ax_istore_2 (pc := 29) C dX6_isOfKind_29 rfl ?_
  refine ax_iinc_3 (pc := 30) C dX6_isOfKind_30 (1) (by decide) rfl ?_
  refine ax_goto (pc := 33) (tgt := 4) C dX6_isOfKind_33 (by decide) ?_
  refine ax_iload_3 (pc := 4) C dX6_isOfKind_4 ?_
  refine ax_bipush (pc := 5) (v := 6) C dX6_isOfKind_5 (by decide) ?_
  refine ax_icmp_ge (pc := 7) (tgt := 36) C dX6_isOfKind_7 (by decide) (fun z => False.elim (absurd z (by decide))) (fun _ => ?_)
  refine ax_iload_2 (pc := 10) C dX6_isOfKind_10 ?_
  refine ax_iload_1 (pc := 11) C dX6_isOfKind_11 ?_
  refine ax_icmp_eq (pc := 12) (tgt := 36) C dX6_isOfKind_12 (by decide) (fun z => False.elim (absurd z (by decide))) (fun _ => ?_)
  refine ax_iload_2 (pc := 15) C dX6_isOfKind_15 ?_
  refine ax_iconst (pc := 16) (v := 0) C dX6_isOfKind_16 (by decide) ?_
  refine ax_iconst (pc := 17) (v := 5) C dX6_isOfKind_17 (by decide) ?_
  refine ax_callSi (pc := 18) C (w_X6_isWithin F) kX6_isWithin mX6_59 dX6_isOfKind_18 (by decide) rfl rfl (Nat.le_of_ble_eq_true rfl) rfl ⟨Nat.le_refl _, Nat.le_refl _⟩ ?_
  refine ax_if_eq (pc := 21) (tgt := 36) C dX6_isOfKind_21 (by decide) (fun z => False.elim (ax_beq z (by decide))) (fun _ => ?_)
  refine ax_gets (pc := 24) C hS0 st_254 dX6_isOfKind_24 ?_
  refine ax_iload_2 (pc := 27) C dX6_isOfKind_27 ?_
  refine ax_sta (pc := 28) C hS0 (w := 0) 0 (by decide) rfl rfl dX6_isOfKind_28 ?_
  refine ax_istore_2 (pc := 29) C dX6_isOfKind_29 rfl ?_
  refine ax_iinc_3 (pc := 30) C dX6_isOfKind_30 (1) (by decide) rfl ?_
  refine ax_goto (pc := 33) (tgt := 4) C dX6_isOfKind_33 (by decide) ?_
  refine ax_iload_3 (pc := 4) C dX6_isOfKind_4 ?_
  refine ax_bipush (pc := 5) (v := 6) C dX6_isOfKind_5 (by decide) ?_
  refine ax_icmp_ge (pc := 7) (tgt := 36) C dX6_isOfKind_7 (by decide) (fun z => False.elim (absurd z (by decide))) (fun _ => ?_)
  refine ax_iload_2 (pc := 10) C dX6_isOfKind_10 ?_
  refine ax_iload_1 (pc := 11) C dX6_isOfKind_11 ?_
  refine ax_icmp_eq (pc := 12) (tgt := 36) C dX6_isOfKind_12 (by decide) (fun z => False.elim (absurd z (by decide))) (fun _ => ?_)
  refine ax_iload_2 (pc := 15) C dX6_isOfKind_15 ?_
  refine ax_iconst (pc := 16) (v := 0) C dX6_isOfKind_16 (by decide) ?_
  refine ax_iconst (pc := 17) (v := 5) C dX6_isOfKind_17 (by decide) ?_
  refine ax_callSi (pc := 18) C (w_X6_isWithin F) kX6_isWithin mX6_59 dX6_isOfKind_18 (by decide) rfl rfl (Nat.le_of_ble_eq_true rfl) rfl ⟨Nat.le_refl _, Nat.le_refl _⟩ ?_
  refine ax_if_eq (pc := 21) (tgt := 36) C dX6_isOfKind_21 (by decide) (fun z => False.elim (ax_beq z (by decide))) (fun _ => ?_)
  refine ax_gets (pc := 24) C hS0 st_254 dX6_isOfKind_24 ?_
  refine ax_iload_2 (pc := 27) C dX6_isOfKind_27 ?_
  refine ax_sta (pc := 28) C hS0 (w := 0) 0 (by decide) rfl rfl dX6_isOfKind_28 ?_
  refine ax_istore_2 (pc := 29) C dX6_isOfKind_29 rfl ?_
  refine ax_iinc_3 (pc := 30) C dX6_isOfKind_30 (1) (by decide) rfl ?_
  refine ax_goto (pc := 33) (tgt := 4) C dX6_isOfKind_33 (by decide) ?_
  refine ax_iload_3 (pc := 4) C dX6_isOfKind_4 ?_
  refine ax_bipush (pc := 5) (v := 6) C dX6_isOfKind_5 (by decide) ?_
  refine ax_icmp_ge (pc := 7) (tgt := 36) C dX6_isOfKind_7 (by decide) (fun z => False.elim (absurd z (by decide))) (fun _ => ?_)
  refine ax_iload_2 (pc := 10) C dX6_isOfKind_10 ?_
  refine ax_iload_1 (pc := 11) C dX6_isOfKind_11 ?_
  refine ax_icmp_eq (pc := 12) (tgt := 36) C dX6_isOfKind_12 (by decide) (fun z => False.elim (absurd z (by decide))) (fun _ => ?_)
  refine ax_iload_2 (pc := 15) C dX6_isOfKind_15 ?_
  refine ax_iconst (pc := 16) (v := 0) C dX6_isOfKind_16 (by decide) ?_
  refine ax_iconst (pc := 17) (v := 5) C dX6_isOfKind_17 (by decide) ?_
  refine ax_callSi (pc := 18) C (w_X6_isWithin F) kX6_isWithin mX6_59 dX6_isOfKind_18 (by decide) rfl rfl (Nat.le_of_ble_eq_true rfl) rfl ⟨Nat.le_refl _, Nat.le_refl _⟩ ?_
  refine ax_if_eq (pc := 21) (tgt := 36) C dX6_isOfKind_21 (by decide) (fun z => False.elim (ax_beq z (by decide))) (fun _ => ?_)
  refine ax_gets (pc := 24) C hS0 st_254 dX6_isOfKind_24 ?_
  refine ax_iload_2 (pc := 27) C dX6_isOfKind_27 ?_
  refine ax_sta (pc := 28) C hS0 (w := 0) 0 (by decide) rfl rfl dX6_isOfKind_28 ?_
  refine ax_istore_2 (pc := 29) C dX6_isOfKind_29 rfl ?_
  refine ax_iinc_3 (pc := 30) C dX6_isOfKind_30 (1) (by decide) rfl ?_
  refine ax_goto (pc := 33) (tgt := 4) C dX6_isOfKind_33 (by decide) ?_
  refine ax_iload_3 (pc := 4) C dX6_isOfKind_4 ?_
  refine ax_bipush (pc := 5) (v := 6) C dX6_isOfKind_5 (by decide) ?_
  refine ax_icmp_ge (pc := 7) (tgt := 36) C dX6_isOfKind_7 (by decide) (fun _ => ?_) (fun z => False.elim (absurd z (by decide)))
  refine ax_iload_2 (pc := 36) C dX6_isOfKind_36 ?_
  refine ax_iload_1 (pc := 37) C dX6_isOfKind_37 ?_
  refine ax_icmp_ne (pc := 38) (tgt := 45) C dX6_isOfKind_38 (by decide) (fun _ => ?_) (fun z => False.elim (absurd z (by decide)))
  refine ax_iconst (pc := 45) (v := 0) C dX6_isOfKind_45 (by decide) ?_
  exact ax_zr (pc := 46) C rfl rfl dX6_isOfKind_46 rfl rfl

set_option maxRecDepth 20000 in
set_option maxHeartbeats 4000000 in
theorem w_X6_isOfKind_4_2 {Y : ax_Y} {ad : Nat → Nat} (F : ax_F Y) {l : Launch} {σ : ax_Z} : ax_m Y ad l iX6_isOfKind 1 σ [.int 4, .int 2] (some (.int 0)) σ := by
  obtain ⟨a0, hS0⟩ := ax_St_0 F
  refine ax_m.of F kX6_isOfKind.1 [some (.int (4)), some (.int (2)), none, none] rfl (Nat.le_of_ble_eq_true rfl) (fun x C => ?_)
  refine ax_iload_0 (pc := 0) C dX6_isOfKind_0 ?_
  refine ax_istore_2 (pc := 1) C dX6_isOfKind_1 rfl ?_
  refine ax_iconst (pc := 2) (v := 0) C dX6_isOfKind_2 (by decide) ?_
  refine ax_istore_3 (pc := 3) C dX6_isOfKind_3 rfl ?_
  refine ax_iload_3 (pc := 4) C dX6_isOfKind_4 ?_
  refine ax_bipush (pc := 5) (v := 6) C dX6_isOfKind_5 (by decide) ?_
  refine ax_icmp_ge (pc := 7) (tgt := 36) C dX6_isOfKind_7 (by decide) (fun z => False.elim (absurd z (by decide))) (fun _ => ?_)
  refine ax_iload_2 (pc := 10) C dX6_isOfKind_10 ?_
  refine ax_iload_1 (pc := 11) C dX6_isOfKind_11 ?_
  refine ax_icmp_eq (pc := 12) (tgt := 36) C dX6_isOfKind_12 (by decide) (fun z => False.elim (absurd z (by decide))) (fun _ => ?_)
  refine ax_iload_2 (pc := 15) C dX6_isOfKind_15 ?_
  refine ax_iconst (pc := 16) (v := 0) C dX6_isOfKind_16 (by decide) ?_
  refine ax_iconst (pc := 17) (v := 5) C dX6_isOfKind_17 (by decide) ?_
  refine ax_callSi (pc := 18) C (w_X6_isWithin F) kX6_isWithin mX6_59 dX6_isOfKind_18 (by decide) rfl rfl (Nat.le_of_ble_eq_true rfl) rfl ⟨Nat.le_refl _, Nat.le_refl _⟩ ?_
  refine ax_if_eq (pc := 21) (tgt := 36) C dX6_isOfKind_21 (by decide) (fun z => False.elim (ax_beq z (by decide))) (fun _ => ?_)
  refine ax_gets (pc := 24) C hS0 st_254 dX6_isOfKind_24 ?_
  refine ax_iload_2 (pc := 27) C dX6_isOfKind_27 ?_
  refine ax_sta (pc := 28) C hS0 (w := 0) 4 (by decide) rfl rfl dX6_isOfKind_28 ?_
  refine ax_istore_2 (pc := 29) C dX6_isOfKind_29 rfl ?_
  refine ax_iinc_3 (pc := 30) C dX6_isOfKind_30 (1) (by decide) rfl ?_
  refine ax_goto (pc := 33) (tgt := 4) C dX6_isOfKind_33 (by decide) ?_
  refine ax_iload_3 (pc := 4) C dX6_isOfKind_4 ?_
  refine ax_bipush (pc := 5) (v := 6) C dX6_isOfKind_5 (by decide) ?_
  refine ax_icmp_ge (pc := 7) (tgt := 36) C dX6_isOfKind_7 (by decide) (fun z => False.elim (absurd z (by decide))) (fun _ => ?_)
  refine ax_iload_2 (pc := 10) C dX6_isOfKind_10 ?_
  refine ax_iload_1 (pc := 11) C dX6_isOfKind_11 ?_
  refine ax_icmp_eq (pc := 12) (tgt := 36) C dX6_isOfKind_12 (by decide) (fun z => False.elim (absurd z (by decide))) (fun _ => ?_)
  refine ax_iload_2 (pc := 15) C dX6_isOfKind_15 ?_
  refine ax_iconst (pc := 16) (v := 0) C dX6_isOfKind_16 (by decide) ?_
  refine ax_iconst (pc := 17) (v := 5) C dX6_isOfKind_17 (by decide) ?_
  refine ax_callSi (pc := 18) C (w_X6_isWithin F) kX6_isWithin mX6_59 dX6_isOfKind_18 (by decide) rfl rfl (Nat.le_of_ble_eq_true rfl) rfl ⟨Nat.le_refl _, Nat.le_refl _⟩ ?_
  refine ax_if_eq (pc := 21) (tgt := 36) C dX6_isOfKind_21 (by decide) (fun z => False.elim (ax_beq z (by decide))) (fun _ => ?_)
  refine ax_gets (pc := 24) C hS0 st_254 dX6_isOfKind_24 ?_
  refine ax_iload_2 (pc := 27) C dX6_isOfKind_27 ?_
  refine ax_sta (pc := 28) C hS0 (w := 0) 0 (by decide) rfl rfl dX6_isOfKind_28 ?_
  refine ax_istore_2 (pc := 29) C dX6_isOfKind_29 rfl ?_
  refine ax_iinc_3 (pc := 30) C dX6_isOfKind_30 (1) (by decide) rfl ?_
  refine ax_goto (pc := 33) (tgt := 4) C dX6_isOfKind_33 (by decide) ?_
  refine ax_iload_3 (pc := 4) C dX6_isOfKind_4 ?_
  refine ax_bipush (pc := 5) (v := 6) C dX6_isOfKind_5 (by decide) ?_
  refine ax_icmp_ge (pc := 7) (tgt := 36) C dX6_isOfKind_7 (by decide) (fun z => False.elim (absurd z (by decide))) (fun _ => ?_)
  refine ax_iload_2 (pc := 10) C dX6_isOfKind_10 ?_
  refine ax_iload_1 (pc := 11) C dX6_isOfKind_11 ?_
  refine ax_icmp_eq (pc := 12) (tgt := 36) C dX6_isOfKind_12 (by decide) (fun z => False.elim (absurd z (by decide))) (fun _ => ?_)
  refine ax_iload_2 (pc := 15) C dX6_isOfKind_15 ?_
  refine ax_iconst (pc := 16) (v := 0) C dX6_isOfKind_16 (by decide) ?_
  refine ax_iconst (pc := 17) (v := 5) C dX6_isOfKind_17 (by decide) ?_
  refine ax_callSi (pc := 18) C (w_X6_isWithin F) kX6_isWithin mX6_59 dX6_isOfKind_18 (by decide) rfl rfl (Nat.le_of_ble_eq_true rfl) rfl ⟨Nat.le_refl _, Nat.le_refl _⟩ ?_
  refine ax_if_eq (pc := 21) (tgt := 36) C dX6_isOfKind_21 (by decide) (fun z => False.elim (ax_beq z (by decide))) (fun _ => ?_)
  refine ax_gets (pc := 24) C hS0 st_254 dX6_isOfKind_24 ?_
  refine ax_iload_2 (pc := 27) C dX6_isOfKind_27 ?_
  refine ax_sta (pc := 28) C hS0 (w := 0) 0 (by decide) rfl rfl dX6_isOfKind_28 ?_
  refine ax_istore_2 (pc := 29) C dX6_isOfKind_29 rfl ?_
  refine ax_iinc_3 (pc := 30) C dX6_isOfKind_30 (1) (by decide) rfl ?_
  refine ax_goto (pc := 33) (tgt := 4) C dX6_isOfKind_33 (by decide) ?_
  refine ax_iload_3 (pc := 4) C dX6_isOfKind_4 ?_
  refine ax_bipush (pc := 5) (v := 6) C dX6_isOfKind_5 (by decide) ?_
  refine ax_icmp_ge (pc := 7) (tgt := 36) C dX6_isOfKind_7 (by decide) (fun z => False.elim (absurd z (by decide))) (fun _ => ?_)
  refine ax_iload_2 (pc := 10) C dX6_isOfKind_10 ?_
  refine ax_iload_1 (pc := 11) C dX6_isOfKind_11 ?_
  refine ax_icmp_eq (pc := 12) (tgt := 36) C dX6_isOfKind_12 (by decide) (fun z => False.elim (absurd z (by decide))) (fun _ => ?_)
  refine ax_iload_2 (pc := 15) C dX6_isOfKind_15 ?_
  refine ax_iconst (pc := 16) (v := 0) C dX6_isOfKind_16 (by decide) ?_
  refine ax_iconst (pc := 17) (v := 5) C dX6_isOfKind_17 (by decide) ?_
  refine ax_callSi (pc := 18) C (w_X6_isWithin F) kX6_isWithin mX6_59 dX6_isOfKind_18 (by decide) rfl rfl (Nat.le_of_ble_eq_true rfl) rfl ⟨Nat.le_refl _, Nat.le_refl _⟩ ?_
  refine ax_if_eq (pc := 21) (tgt := 36) C dX6_isOfKind_21 (by decide) (fun z => False.elim (ax_beq z (by decide))) (fun _ => ?_)
  refine ax_gets (pc := 24) C hS0 st_254 dX6_isOfKind_24 ?_
  refine ax_iload_2 (pc := 27) C dX6_isOfKind_27 ?_
  refine ax_sta (pc := 28) C hS0 (w := 0) 0 (by decide) rfl rfl dX6_isOfKind_28 ?_
  refine ax_istore_2 (pc := 29) C dX6_isOfKind_29 rfl ?_
  refine ax_iinc_3 (pc := 30) C dX6_isOfKind_30 (1) (by decide) rfl ?_
  refine ax_goto (pc := 33) (tgt := 4) C dX6_isOfKind_33 (by decide) ?_
  refine ax_iload_3 (pc := 4) C dX6_isOfKind_4 ?_
  refine ax_bipush (pc := 5) (v := 6) C dX6_isOfKind_5 (by decide) ?_
  refine ax_icmp_ge (pc := 7) (tgt := 36) C dX6_isOfKind_7 (by decide) (fun z => False.elim (absurd z (by decide))) (fun _ => ?_)
  refine ax_iload_2 (pc := 10) C dX6_isOfKind_10 ?_
  refine ax_iload_1 (pc := 11) C dX6_isOfKind_11 ?_
  refine ax_icmp_eq (pc := 12) (tgt := 36) C dX6_isOfKind_12 (by decide) (fun z => False.elim (absurd z (by decide))) (fun _ => ?_)
  refine ax_iload_2 (pc := 15) C dX6_isOfKind_15 ?_
  refine ax_iconst (pc := 16) (v := 0) C dX6_isOfKind_16 (by decide) ?_
  refine ax_iconst (pc := 17) (v := 5) C dX6_isOfKind_17 (by decide) ?_
  refine ax_callSi (pc := 18) C (w_X6_isWithin F) kX6_isWithin mX6_59 dX6_isOfKind_18 (by decide) rfl rfl (Nat.le_of_ble_eq_true rfl) rfl ⟨Nat.le_refl _, Nat.le_refl _⟩ ?_
  refine ax_if_eq (pc := 21) (tgt := 36) C dX6_isOfKind_21 (by decide) (fun z => False.elim (ax_beq z (by decide))) (fun _ => ?_)
  refine ax_gets (pc := 24) C hS0 st_254 dX6_isOfKind_24 ?_
  refine ax_iload_2 (pc := 27) C dX6_isOfKind_27 ?_
  refine ax_sta (pc := 28) C hS0 (w := 0) 0 (by decide) rfl rfl dX6_isOfKind_28 ?_
  refine ax_istore_2 (pc := 29) C dX6_isOfKind_29 rfl ?_
  refine ax_iinc_3 (pc := 30) C dX6_isOfKind_30 (1) (by decide) rfl ?_
  refine ax_goto (pc := 33) (tgt := 4) C dX6_isOfKind_33 (by decide) ?_
  refine ax_iload_3 (pc := 4) C dX6_isOfKind_4 ?_
  refine ax_bipush (pc := 5) (v := 6) C dX6_isOfKind_5 (by decide) ?_
  refine ax_icmp_ge (pc := 7) (tgt := 36) C dX6_isOfKind_7 (by decide) (fun z => False.elim (absurd z (by decide))) (fun _ => ?_)
  refine ax_iload_2 (pc := 10) C dX6_isOfKind_10 ?_
  refine ax_iload_1 (pc := 11) C dX6_isOfKind_11 ?_
  refine ax_icmp_eq (pc := 12) (tgt := 36) C dX6_isOfKind_12 (by decide) (fun z => False.elim (absurd z (by decide))) (fun _ => ?_)
  refine ax_iload_2 (pc := 15) C dX6_isOfKind_15 ?_
  refine ax_iconst (pc := 16) (v := 0) C dX6_isOfKind_16 (by decide) ?_
  refine ax_iconst (pc := 17) (v := 5) C dX6_isOfKind_17 (by decide) ?_
  refine ax_callSi (pc := 18) C (w_X6_isWithin F) kX6_isWithin mX6_59 dX6_isOfKind_18 (by decide) rfl rfl (Nat.le_of_ble_eq_true rfl) rfl ⟨Nat.le_refl _, Nat.le_refl _⟩ ?_
  refine ax_if_eq (pc := 21) (tgt := 36) C dX6_isOfKind_21 (by decide) (fun z => False.elim (ax_beq z (by decide))) (fun _ => ?_)
  refine ax_gets (pc := 24) C hS0 st_254 dX6_isOfKind_24 ?_
  refine ax_iload_2 (pc := 27) C dX6_isOfKind_27 ?_
  refine ax_sta (pc := 28) C hS0 (w := 0) 0 (by decide) rfl rfl dX6_isOfKind_28 ?_
  refine ax_istore_2 (pc := 29) C dX6_isOfKind_29 rfl ?_
  refine ax_iinc_3 (pc := 30) C dX6_isOfKind_30 (1) (by decide) rfl ?_
  refine ax_goto (pc := 33) (tgt := 4) C dX6_isOfKind_33 (by decide) ?_
  refine ax_iload_3 (pc := 4) C dX6_isOfKind_4 ?_
  refine ax_bipush (pc := 5) (v := 6) C dX6_isOfKind_5 (by decide) ?_
  refine ax_icmp_ge (pc := 7) (tgt := 36) C dX6_isOfKind_7 (by decide) (fun _ => ?_) (fun z => False.elim (absurd z (by decide)))
  refine ax_iload_2 (pc := 36) C dX6_isOfKind_36 ?_
  refine ax_iload_1 (pc := 37) C dX6_isOfKind_37 ?_
  refine ax_icmp_ne (pc := 38) (tgt := 45) C dX6_isOfKind_38 (by decide) (fun _ => ?_) (fun z => False.elim (absurd z (by decide)))
  refine ax_iconst (pc := 45) (v := 0) C dX6_isOfKind_45 (by decide) ?_
  exact ax_zr (pc := 46) C rfl rfl dX6_isOfKind_46 rfl rfl

set_option maxRecDepth 20000 in
set_option maxHeartbeats 4000000 in
theorem w_X6_isOfKind_4_3 {Y : ax_Y} {ad : Nat → Nat} (F : ax_F Y) {l : Launch} {σ : ax_Z} : ax_m Y ad l iX6_isOfKind 1 σ [.int 4, .int 3] (some (.int 0)) σ := by
  obtain ⟨a0, hS0⟩ := ax_St_0 F
  refine ax_m.of F kX6_isOfKind.1 [some (.int (4)), some (.int (3)), none, none] rfl (Nat.le_of_ble_eq_true rfl) (fun x C => ?_)
  refine ax_iload_0 (pc := 0) C dX6_isOfKind_0 ?_
  refine ax_istore_2 (pc := 1) C dX6_isOfKind_1 rfl ?_
  refine ax_iconst (pc := 2) (v := 0) C dX6_isOfKind_2 (by decide) ?_
  refine ax_istore_3 (pc := 3) C dX6_isOfKind_3 rfl ?_
  refine ax_iload_3 (pc := 4) C dX6_isOfKind_4 ?_
  refine ax_bipush (pc := 5) (v := 6) C dX6_isOfKind_5 (by decide) ?_
  refine ax_icmp_ge (pc := 7) (tgt := 36) C dX6_isOfKind_7 (by decide) (fun z => False.elim (absurd z (by decide))) (fun _ => ?_)
  refine ax_iload_2 (pc := 10) C dX6_isOfKind_10 ?_
  refine ax_iload_1 (pc := 11) C dX6_isOfKind_11 ?_
  refine ax_icmp_eq (pc := 12) (tgt := 36) C dX6_isOfKind_12 (by decide) (fun z => False.elim (absurd z (by decide))) (fun _ => ?_)
  refine ax_iload_2 (pc := 15) C dX6_isOfKind_15 ?_
  refine ax_iconst (pc := 16) (v := 0) C dX6_isOfKind_16 (by decide) ?_
  refine ax_iconst (pc := 17) (v := 5) C dX6_isOfKind_17 (by decide) ?_
  refine ax_callSi (pc := 18) C (w_X6_isWithin F) kX6_isWithin mX6_59 dX6_isOfKind_18 (by decide) rfl rfl (Nat.le_of_ble_eq_true rfl) rfl ⟨Nat.le_refl _, Nat.le_refl _⟩ ?_
  refine ax_if_eq (pc := 21) (tgt := 36) C dX6_isOfKind_21 (by decide) (fun z => False.elim (ax_beq z (by decide))) (fun _ => ?_)
  refine ax_gets (pc := 24) C hS0 st_254 dX6_isOfKind_24 ?_
  refine ax_iload_2 (pc := 27) C dX6_isOfKind_27 ?_
  refine ax_sta (pc := 28) C hS0 (w := 0) 4 (by decide) rfl rfl dX6_isOfKind_28 ?_
  refine ax_istore_2 (pc := 29) C dX6_isOfKind_29 rfl ?_
  refine ax_iinc_3 (pc := 30) C dX6_isOfKind_30 (1) (by decide) rfl ?_
  refine ax_goto (pc := 33) (tgt := 4) C dX6_isOfKind_33 (by decide) ?_
  refine ax_iload_3 (pc := 4) C dX6_isOfKind_4 ?_
  refine ax_bipush (pc := 5) (v := 6) C dX6_isOfKind_5 (by decide) ?_
  refine ax_icmp_ge (pc := 7) (tgt := 36) C dX6_isOfKind_7 (by decide) (fun z => False.elim (absurd z (by decide))) (fun _ => ?_)
  refine ax_iload_2 (pc := 10) C dX6_isOfKind_10 ?_
  refine ax_iload_1 (pc := 11) C dX6_isOfKind_11 ?_
  refine ax_icmp_eq (pc := 12) (tgt := 36) C dX6_isOfKind_12 (by decide) (fun z => False.elim (absurd z (by decide))) (fun _ => ?_)
  refine ax_iload_2 (pc := 15) C dX6_isOfKind_15 ?_
  refine ax_iconst (pc := 16) (v := 0) C dX6_isOfKind_16 (by decide) ?_
  refine ax_iconst (pc := 17) (v := 5) C dX6_isOfKind_17 (by decide) ?_
  refine ax_callSi (pc := 18) C (w_X6_isWithin F) kX6_isWithin mX6_59 dX6_isOfKind_18 (by decide) rfl rfl (Nat.le_of_ble_eq_true rfl) rfl ⟨Nat.le_refl _, Nat.le_refl _⟩ ?_
  refine ax_if_eq (pc := 21) (tgt := 36) C dX6_isOfKind_21 (by decide) (fun z => False.elim (ax_beq z (by decide))) (fun _ => ?_)
  refine ax_gets (pc := 24) C hS0 st_254 dX6_isOfKind_24 ?_
  refine ax_iload_2 (pc := 27) C dX6_isOfKind_27 ?_
  refine ax_sta (pc := 28) C hS0 (w := 0) 0 (by decide) rfl rfl dX6_isOfKind_28 ?_
  refine ax_istore_2 (pc := 29) C dX6_isOfKind_29 rfl ?_
  refine ax_iinc_3 (pc := 30) C dX6_isOfKind_30 (1) (by decide) rfl ?_
  refine ax_goto (pc := 33) (tgt := 4) C dX6_isOfKind_33 (by decide) ?_
  refine ax_iload_3 (pc := 4) C dX6_isOfKind_4 ?_
  refine ax_bipush (pc := 5) (v := 6) C dX6_isOfKind_5 (by decide) ?_
  refine ax_icmp_ge (pc := 7) (tgt := 36) C dX6_isOfKind_7 (by decide) (fun z => False.elim (absurd z (by decide))) (fun _ => ?_)
  refine ax_iload_2 (pc := 10) C dX6_isOfKind_10 ?_
  refine ax_iload_1 (pc := 11) C dX6_isOfKind_11 ?_
  refine ax_icmp_eq (pc := 12) (tgt := 36) C dX6_isOfKind_12 (by decide) (fun z => False.elim (absurd z (by decide))) (fun _ => ?_)
  refine ax_iload_2 (pc := 15) C dX6_isOfKind_15 ?_
  refine ax_iconst (pc := 16) (v := 0) C dX6_isOfKind_16 (by decide) ?_
  refine ax_iconst (pc := 17) (v := 5) C dX6_isOfKind_17 (by decide) ?_
  refine ax_callSi (pc := 18) C (w_X6_isWithin F) kX6_isWithin mX6_59 dX6_isOfKind_18 (by decide) rfl rfl (Nat.le_of_ble_eq_true rfl) rfl ⟨Nat.le_refl _, Nat.le_refl _⟩ ?_
  refine ax_if_eq (pc := 21) (tgt := 36) C dX6_isOfKind_21 (by decide) (fun z => False.elim (ax_beq z (by decide))) (fun _ => ?_)
  refine ax_gets (pc := 24) C hS0 st_254 dX6_isOfKind_24 ?_
  refine ax_iload_2 (pc := 27) C dX6_isOfKind_27 ?_
  refine ax_sta (pc := 28) C hS0 (w := 0) 0 (by decide) rfl rfl dX6_isOfKind_28 ?_
  refine ax_istore_2 (pc := 29) C dX6_isOfKind_29 rfl ?_
  refine ax_iinc_3 (pc := 30) C dX6_isOfKind_30 (1) (by decide) rfl ?_
  refine ax_goto (pc := 33) (tgt := 4) C dX6_isOfKind_33 (by decide) ?_
  refine ax_iload_3 (pc := 4) C dX6_isOfKind_4 ?_
  refine ax_bipush (pc := 5) (v := 6) C dX6_isOfKind_5 (by decide) ?_
  refine ax_icmp_ge (pc := 7) (tgt := 36) C dX6_isOfKind_7 (by decide) (fun z => False.elim (absurd z (by decide))) (fun _ => ?_)
  refine ax_iload_2 (pc := 10) C dX6_isOfKind_10 ?_
  refine ax_iload_1 (pc := 11) C dX6_isOfKind_11 ?_
  refine ax_icmp_eq (pc := 12) (tgt := 36) C dX6_isOfKind_12 (by decide) (fun z => False.elim (absurd z (by decide))) (fun _ => ?_)
  refine ax_iload_2 (pc := 15) C dX6_isOfKind_15 ?_
  refine ax_iconst (pc := 16) (v := 0) C dX6_isOfKind_16 (by decide) ?_
  refine ax_iconst (pc := 17) (v := 5) C dX6_isOfKind_17 (by decide) ?_
  refine ax_callSi (pc := 18) C (w_X6_isWithin F) kX6_isWithin mX6_59 dX6_isOfKind_18 (by decide) rfl rfl (Nat.le_of_ble_eq_true rfl) rfl ⟨Nat.le_refl _, Nat.le_refl _⟩ ?_
  refine ax_if_eq (pc := 21) (tgt := 36) C dX6_isOfKind_21 (by decide) (fun z => False.elim (ax_beq z (by decide))) (fun _ => ?_)
  refine ax_gets (pc := 24) C hS0 st_254 dX6_isOfKind_24 ?_
  refine ax_iload_2 (pc := 27) C dX6_isOfKind_27 ?_
  refine ax_sta (pc := 28) C hS0 (w := 0) 0 (by decide) rfl rfl dX6_isOfKind_28 ?_
  refine ax_istore_2 (pc := 29) C dX6_isOfKind_29 rfl ?_
  refine ax_iinc_3 (pc := 30) C dX6_isOfKind_30 (1) (by decide) rfl ?_
  refine ax_goto (pc := 33) (tgt := 4) C dX6_isOfKind_33 (by decide) ?_
  refine ax_iload_3 (pc := 4) C dX6_isOfKind_4 ?_
  refine ax_bipush (pc := 5) (v := 6) C dX6_isOfKind_5 (by decide) ?_
  refine ax_icmp_ge (pc := 7) (tgt := 36) C dX6_isOfKind_7 (by decide) (fun z => False.elim (absurd z (by decide))) (fun _ => ?_)
  refine ax_iload_2 (pc := 10) C dX6_isOfKind_10 ?_
  refine ax_iload_1 (pc := 11) C dX6_isOfKind_11 ?_
  refine ax_icmp_eq (pc := 12) (tgt := 36) C dX6_isOfKind_12 (by decide) (fun z => False.elim (absurd z (by decide))) (fun _ => ?_)
  refine ax_iload_2 (pc := 15) C dX6_isOfKind_15 ?_
  refine ax_iconst (pc := 16) (v := 0) C dX6_isOfKind_16 (by decide) ?_
  refine ax_iconst (pc := 17) (v := 5) C dX6_isOfKind_17 (by decide) ?_
  refine ax_callSi (pc := 18) C (w_X6_isWithin F) kX6_isWithin mX6_59 dX6_isOfKind_18 (by decide) rfl rfl (Nat.le_of_ble_eq_true rfl) rfl ⟨Nat.le_refl _, Nat.le_refl _⟩ ?_
  refine ax_if_eq (pc := 21) (tgt := 36) C dX6_isOfKind_21 (by decide) (fun z => False.elim (ax_beq z (by decide))) (fun _ => ?_)
  refine ax_gets (pc := 24) C hS0 st_254 dX6_isOfKind_24 ?_
  refine ax_iload_2 (pc := 27) C dX6_isOfKind_27 ?_
  refine ax_sta (pc := 28) C hS0 (w := 0) 0 (by decide) rfl rfl dX6_isOfKind_28 ?_
  refine ax_istore_2 (pc := 29) C dX6_isOfKind_29 rfl ?_
  refine ax_iinc_3 (pc := 30) C dX6_isOfKind_30 (1) (by decide) rfl ?_
  refine ax_goto (pc := 33) (tgt := 4) C dX6_isOfKind_33 (by decide) ?_
  refine ax_iload_3 (pc := 4) C dX6_isOfKind_4 ?_
  refine ax_bipush (pc := 5) (v := 6) C dX6_isOfKind_5 (by decide) ?_
  refine ax_icmp_ge (pc := 7) (tgt := 36) C dX6_isOfKind_7 (by decide) (fun z => False.elim (absurd z (by decide))) (fun _ => ?_)
  refine ax_iload_2 (pc := 10) C dX6_isOfKind_10 ?_
  refine ax_iload_1 (pc := 11) C dX6_isOfKind_11 ?_
  refine ax_icmp_eq (pc := 12) (tgt := 36) C dX6_isOfKind_12 (by decide) (fun z => False.elim (absurd z (by decide))) (fun _ => ?_)
  refine ax_iload_2 (pc := 15) C dX6_isOfKind_15 ?_
  refine ax_iconst (pc := 16) (v := 0) C dX6_isOfKind_16 (by decide) ?_
  refine ax_iconst (pc := 17) (v := 5) C dX6_isOfKind_17 (by decide) ?_
  refine ax_callSi (pc := 18) C (w_X6_isWithin F) kX6_isWithin mX6_59 dX6_isOfKind_18 (by decide) rfl rfl (Nat.le_of_ble_eq_true rfl) rfl ⟨Nat.le_refl _, Nat.le_refl _⟩ ?_
  refine ax_if_eq (pc := 21) (tgt := 36) C dX6_isOfKind_21 (by decide) (fun z => False.elim (ax_beq z (by decide))) (fun _ => ?_)
  refine ax_gets (pc := 24) C hS0 st_254 dX6_isOfKind_24 ?_
  refine ax_iload_2 (pc := 27) C dX6_isOfKind_27 ?_
  refine ax_sta (pc := 28) C hS0 (w := 0) 0 (by decide) rfl rfl dX6_isOfKind_28 ?_
  refine ax_istore_2 (pc := 29) C dX6_isOfKind_29 rfl ?_
  refine ax_iinc_3 (pc := 30) C dX6_isOfKind_30 (1) (by decide) rfl ?_
  refine ax_goto (pc := 33) (tgt := 4) C dX6_isOfKind_33 (by decide) ?_
  refine ax_iload_3 (pc := 4) C dX6_isOfKind_4 ?_
  refine ax_bipush (pc := 5) (v := 6) C dX6_isOfKind_5 (by decide) ?_
  refine ax_icmp_ge (pc := 7) (tgt := 36) C dX6_isOfKind_7 (by decide) (fun _ => ?_) (fun z => False.elim (absurd z (by decide)))
  refine ax_iload_2 (pc := 36) C dX6_isOfKind_36 ?_
  refine ax_iload_1 (pc := 37) C dX6_isOfKind_37 ?_
  refine ax_icmp_ne (pc := 38) (tgt := 45) C dX6_isOfKind_38 (by decide) (fun _ => ?_) (fun z => False.elim (absurd z (by decide)))
  refine ax_iconst (pc := 45) (v := 0) C dX6_isOfKind_45 (by decide) ?_
  exact ax_zr (pc := 46) C rfl rfl dX6_isOfKind_46 rfl rfl

set_option maxRecDepth 20000 in
set_option maxHeartbeats 4000000 in
theorem w_X6_isOfKind_4_4 {Y : ax_Y} {ad : Nat → Nat} (F : ax_F Y) {l : Launch} {σ : ax_Z} : ax_m Y ad l iX6_isOfKind 1 σ [.int 4, .int 4] (some (.int 1)) σ := by
  obtain ⟨a0, hS0⟩ := ax_St_0 F
  refine ax_m.of F kX6_isOfKind.1 [some (.int (4)), some (.int (4)), none, none] rfl (Nat.le_of_ble_eq_true rfl) (fun x C => ?_)
  refine ax_iload_0 (pc := 0) C dX6_isOfKind_0 ?_
  refine ax_istore_2 (pc := 1) C dX6_isOfKind_1 rfl ?_
  refine ax_iconst (pc := 2) (v := 0) C dX6_isOfKind_2 (by decide) ?_
  refine ax_istore_3 (pc := 3) C dX6_isOfKind_3 rfl ?_
  refine ax_iload_3 (pc := 4) C dX6_isOfKind_4 ?_
  refine ax_bipush (pc := 5) (v := 6) C dX6_isOfKind_5 (by decide) ?_
  refine ax_icmp_ge (pc := 7) (tgt := 36) C dX6_isOfKind_7 (by decide) (fun z => False.elim (absurd z (by decide))) (fun _ => ?_)
  refine ax_iload_2 (pc := 10) C dX6_isOfKind_10 ?_
  refine ax_iload_1 (pc := 11) C dX6_isOfKind_11 ?_
  refine ax_icmp_eq (pc := 12) (tgt := 36) C dX6_isOfKind_12 (by decide) (fun _ => ?_) (fun z => False.elim (absurd z (by decide)))
  refine ax_iload_2 (pc := 36) C dX6_isOfKind_36 ?_
  refine ax_iload_1 (pc := 37) C dX6_isOfKind_37 ?_
  refine ax_icmp_ne (pc := 38) (tgt := 45) C dX6_isOfKind_38 (by decide) (fun z => False.elim (absurd z (by decide))) (fun _ => ?_)
  refine ax_iconst (pc := 41) (v := 1) C dX6_isOfKind_41 (by decide) ?_
  refine ax_goto (pc := 42) (tgt := 46) C dX6_isOfKind_42 (by decide) ?_
  exact ax_zr (pc := 46) C rfl rfl dX6_isOfKind_46 rfl rfl

set_option maxRecDepth 20000 in
set_option maxHeartbeats 4000000 in
theorem w_X6_isOfKind_4_5 {Y : ax_Y} {ad : Nat → Nat} (F : ax_F Y) {l : Launch} {σ : ax_Z} : ax_m Y ad l iX6_isOfKind 1 σ [.int 4, .int 5] (some (.int 0)) σ := by
  obtain ⟨a0, hS0⟩ := ax_St_0 F
  refine ax_m.of F kX6_isOfKind.1 [some (.int (4)), some (.int (5)), none, none] rfl (Nat.le_of_ble_eq_true rfl) (fun x C => ?_)
  refine ax_iload_0 (pc := 0) C dX6_isOfKind_0 ?_
  refine ax_istore_2 (pc := 1) C dX6_isOfKind_1 rfl ?_
  refine ax_iconst (pc := 2) (v := 0) C dX6_isOfKind_2 (by decide) ?_
  refine ax_istore_3 (pc := 3) C dX6_isOfKind_3 rfl ?_
  refine ax_iload_3 (pc := 4) C dX6_isOfKind_4 ?_
  refine ax_bipush (pc := 5) (v := 6) C dX6_isOfKind_5 (by decide) ?_
  refine ax_icmp_ge (pc := 7) (tgt := 36) C dX6_isOfKind_7 (by decide) (fun z => False.elim (absurd z (by decide))) (fun _ => ?_)
  refine ax_iload_2 (pc := 10) C dX6_isOfKind_10 ?_
  refine ax_iload_1 (pc := 11) C dX6_isOfKind_11 ?_
  refine ax_icmp_eq (pc := 12) (tgt := 36) C dX6_isOfKind_12 (by decide) (fun z => False.elim (absurd z (by decide))) (fun _ => ?_)
  refine ax_iload_2 (pc := 15) C dX6_isOfKind_15 ?_
  refine ax_iconst (pc := 16) (v := 0) C dX6_isOfKind_16 (by decide) ?_
  refine ax_iconst (pc := 17) (v := 5) C dX6_isOfKind_17 (by decide) ?_
  refine ax_callSi (pc := 18) C (w_X6_isWithin F) kX6_isWithin mX6_59 dX6_isOfKind_18 (by decide) rfl rfl (Nat.le_of_ble_eq_true rfl) rfl ⟨Nat.le_refl _, Nat.le_refl _⟩ ?_
  refine ax_if_eq (pc := 21) (tgt := 36) C dX6_isOfKind_21 (by decide) (fun z => False.elim (ax_beq z (by decide))) (fun _ => ?_)
  refine ax_gets (pc := 24) C hS0 st_254 dX6_isOfKind_24 ?_
  refine ax_iload_2 (pc := 27) C dX6_isOfKind_27 ?_
  refine ax_sta (pc := 28) C hS0 (w := 0) 4 (by decide) rfl rfl dX6_isOfKind_28 ?_
  refine ax_istore_2 (pc := 29) C dX6_isOfKind_29 rfl ?_
  refine ax_iinc_3 (pc := 30) C dX6_isOfKind_30 (1) (by decide) rfl ?_
  refine ax_goto (pc := 33) (tgt := 4) C dX6_isOfKind_33 (by decide) ?_
  refine ax_iload_3 (pc := 4) C dX6_isOfKind_4 ?_
  refine ax_bipush (pc := 5) (v := 6) C dX6_isOfKind_5 (by decide) ?_
  refine ax_icmp_ge (pc := 7) (tgt := 36) C dX6_isOfKind_7 (by decide) (fun z => False.elim (absurd z (by decide))) (fun _ => ?_)
  refine ax_iload_2 (pc := 10) C dX6_isOfKind_10 ?_
  refine ax_iload_1 (pc := 11) C dX6_isOfKind_11 ?_
  refine ax_icmp_eq (pc := 12) (tgt := 36) C dX6_isOfKind_12 (by decide) (fun z => False.elim (absurd z (by decide))) (fun _ => ?_)
  refine ax_iload_2 (pc := 15) C dX6_isOfKind_15 ?_
  refine ax_iconst (pc := 16) (v := 0) C dX6_isOfKind_16 (by decide) ?_
  refine ax_iconst (pc := 17) (v := 5) C dX6_isOfKind_17 (by decide) ?_
  refine ax_callSi (pc := 18) C (w_X6_isWithin F) kX6_isWithin mX6_59 dX6_isOfKind_18 (by decide) rfl rfl (Nat.le_of_ble_eq_true rfl) rfl ⟨Nat.le_refl _, Nat.le_refl _⟩ ?_
  refine ax_if_eq (pc := 21) (tgt := 36) C dX6_isOfKind_21 (by decide) (fun z => False.elim (ax_beq z (by decide))) (fun _ => ?_)
  refine ax_gets (pc := 24) C hS0 st_254 dX6_isOfKind_24 ?_
  refine ax_iload_2 (pc := 27) C dX6_isOfKind_27 ?_
  refine ax_sta (pc := 28) C hS0 (w := 0) 0 (by decide) rfl rfl dX6_isOfKind_28 ?_
  refine ax_istore_2 (pc := 29) C dX6_isOfKind_29 rfl ?_
  refine ax_iinc_3 (pc := 30) C dX6_isOfKind_30 (1) (by decide) rfl ?_
  refine ax_goto (pc := 33) (tgt := 4) C dX6_isOfKind_33 (by decide) ?_
  refine ax_iload_3 (pc := 4) C dX6_isOfKind_4 ?_
  refine ax_bipush (pc := 5) (v := 6) C dX6_isOfKind_5 (by decide) ?_
  refine ax_icmp_ge (pc := 7) (tgt := 36) C dX6_isOfKind_7 (by decide) (fun z => False.elim (absurd z (by decide))) (fun _ => ?_)
  refine ax_iload_2 (pc := 10) C dX6_isOfKind_10 ?_
  refine ax_iload_1 (pc := 11) C dX6_isOfKind_11 ?_
  refine ax_icmp_eq (pc := 12) (tgt := 36) C dX6_isOfKind_12 (by decide) (fun z => False.elim (absurd z (by decide))) (fun _ => ?_)
  refine ax_iload_2 (pc := 15) C dX6_isOfKind_15 ?_
  refine ax_iconst (pc := 16) (v := 0) C dX6_isOfKind_16 (by decide) ?_
  refine ax_iconst (pc := 17) (v := 5) C dX6_isOfKind_17 (by decide) ?_
  refine ax_callSi (pc := 18) C (w_X6_isWithin F) kX6_isWithin mX6_59 dX6_isOfKind_18 (by decide) rfl rfl (Nat.le_of_ble_eq_true rfl) rfl ⟨Nat.le_refl _, Nat.le_refl _⟩ ?_
  refine ax_if_eq (pc := 21) (tgt := 36) C dX6_isOfKind_21 (by decide) (fun z => False.elim (ax_beq z (by decide))) (fun _ => ?_)
  refine ax_gets (pc := 24) C hS0 st_254 dX6_isOfKind_24 ?_
  refine ax_iload_2 (pc := 27) C dX6_isOfKind_27 ?_
  refine ax_sta (pc := 28) C hS0 (w := 0) 0 (by decide) rfl rfl dX6_isOfKind_28 ?_
  refine ax_istore_2 (pc := 29) C dX6_isOfKind_29 rfl ?_
  refine ax_iinc_3 (pc := 30) C dX6_isOfKind_30 (1) (by decide) rfl ?_
  refine ax_goto (pc := 33) (tgt := 4) C dX6_isOfKind_33 (by decide) ?_
  refine ax_iload_3 (pc := 4) C dX6_isOfKind_4 ?_
  refine ax_bipush (pc := 5) (v := 6) C dX6_isOfKind_5 (by decide) ?_
  refine ax_icmp_ge (pc := 7) (tgt := 36) C dX6_isOfKind_7 (by decide) (fun z => False.elim (absurd z (by decide))) (fun _ => ?_)
  refine ax_iload_2 (pc := 10) C dX6_isOfKind_10 ?_
  refine ax_iload_1 (pc := 11) C dX6_isOfKind_11 ?_
  refine ax_icmp_eq (pc := 12) (tgt := 36) C dX6_isOfKind_12 (by decide) (fun z => False.elim (absurd z (by decide))) (fun _ => ?_)
  refine ax_iload_2 (pc := 15) C dX6_isOfKind_15 ?_
  refine ax_iconst (pc := 16) (v := 0) C dX6_isOfKind_16 (by decide) ?_
  refine ax_iconst (pc := 17) (v := 5) C dX6_isOfKind_17 (by decide) ?_
  refine ax_callSi (pc := 18) C (w_X6_isWithin F) kX6_isWithin mX6_59 dX6_isOfKind_18 (by decide) rfl rfl (Nat.le_of_ble_eq_true rfl) rfl ⟨Nat.le_refl _, Nat.le_refl _⟩ ?_
  refine ax_if_eq (pc := 21) (tgt := 36) C dX6_isOfKind_21 (by decide) (fun z => False.elim (ax_beq z (by decide))) (fun _ => ?_)
  refine ax_gets (pc := 24) C hS0 st_254 dX6_isOfKind_24 ?_
  refine ax_iload_2 (pc := 27) C dX6_isOfKind_27 ?_
  refine ax_sta (pc := 28) C hS0 (w := 0) 0 (by decide) rfl rfl dX6_isOfKind_28 ?_
  refine ax_istore_2 (pc := 29) C dX6_isOfKind_29 rfl ?_
  refine ax_iinc_3 (pc := 30) C dX6_isOfKind_30 (1) (by decide) rfl ?_
  refine ax_goto (pc := 33) (tgt := 4) C dX6_isOfKind_33 (by decide) ?_
  refine ax_iload_3 (pc := 4) C dX6_isOfKind_4 ?_
  refine ax_bipush (pc := 5) (v := 6) C dX6_isOfKind_5 (by decide) ?_
  refine ax_icmp_ge (pc := 7) (tgt := 36) C dX6_isOfKind_7 (by decide) (fun z => False.elim (absurd z (by decide))) (fun _ => ?_)
  refine ax_iload_2 (pc := 10) C dX6_isOfKind_10 ?_
  refine ax_iload_1 (pc := 11) C dX6_isOfKind_11 ?_
  refine ax_icmp_eq (pc := 12) (tgt := 36) C dX6_isOfKind_12 (by decide) (fun z => False.elim (absurd z (by decide))) (fun _ => ?_)
  refine ax_iload_2 (pc := 15) C dX6_isOfKind_15 ?_
  refine ax_iconst (pc := 16) (v := 0) C dX6_isOfKind_16 (by decide) ?_
  refine ax_iconst (pc := 17) (v := 5) C dX6_isOfKind_17 (by decide) ?_
  refine ax_callSi (pc := 18) C (w_X6_isWithin F) kX6_isWithin mX6_59 dX6_isOfKind_18 (by decide) rfl rfl (Nat.le_of_ble_eq_true rfl) rfl ⟨Nat.le_refl _, Nat.le_refl _⟩ ?_
  refine ax_if_eq (pc := 21) (tgt := 36) C dX6_isOfKind_21 (by decide) (fun z => False.elim (ax_beq z (by decide))) (fun _ => ?_)
  refine ax_gets (pc := 24) C hS0 st_254 dX6_isOfKind_24 ?_
  refine ax_iload_2 (pc := 27) C dX6_isOfKind_27 ?_
  refine ax_sta (pc := 28) C hS0 (w := 0) 0 (by decide) rfl rfl dX6_isOfKind_28 ?_
  refine ax_istore_2 (pc := 29) C dX6_isOfKind_29 rfl ?_
  refine ax_iinc_3 (pc := 30) C dX6_isOfKind_30 (1) (by decide) rfl ?_
  refine ax_goto (pc := 33) (tgt := 4) C dX6_isOfKind_33 (by decide) ?_
  refine ax_iload_3 (pc := 4) C dX6_isOfKind_4 ?_
  refine ax_bipush (pc := 5) (v := 6) C dX6_isOfKind_5 (by decide) ?_
  refine ax_icmp_ge (pc := 7) (tgt := 36) C dX6_isOfKind_7 (by decide) (fun z => False.elim (absurd z (by decide))) (fun _ => ?_)
  refine ax_iload_2 (pc := 10) C dX6_isOfKind_10 ?_
  refine ax_iload_1 (pc := 11) C dX6_isOfKind_11 ?_
  refine ax_icmp_eq (pc := 12) (tgt := 36) C dX6_isOfKind_12 (by decide) (fun z => False.elim (absurd z (by decide))) (fun _ => ?_)
  refine ax_iload_2 (pc := 15) C dX6_isOfKind_15 ?_
  refine ax_iconst (pc := 16) (v := 0) C dX6_isOfKind_16 (by decide) ?_
  refine ax_iconst (pc := 17) (v := 5) C dX6_isOfKind_17 (by decide) ?_
  refine ax_callSi (pc := 18) C (w_X6_isWithin F) kX6_isWithin mX6_59 dX6_isOfKind_18 (by decide) rfl rfl (Nat.le_of_ble_eq_true rfl) rfl ⟨Nat.le_refl _, Nat.le_refl _⟩ ?_
  refine ax_if_eq (pc := 21) (tgt := 36) C dX6_isOfKind_21 (by decide) (fun z => False.elim (ax_beq z (by decide))) (fun _ => ?_)
  refine ax_gets (pc := 24) C hS0 st_254 dX6_isOfKind_24 ?_
  refine ax_iload_2 (pc := 27) C dX6_isOfKind_27 ?_
  refine ax_sta (pc := 28) C hS0 (w := 0) 0 (by decide) rfl rfl dX6_isOfKind_28 ?_
  refine ax_istore_2 (pc := 29) C dX6_isOfKind_29 rfl ?_
  refine ax_iinc_3 (pc := 30) C dX6_isOfKind_30 (1) (by decide) rfl ?_
  refine ax_goto (pc := 33) (tgt := 4) C dX6_isOfKind_33 (by decide) ?_
  refine ax_iload_3 (pc := 4) C dX6_isOfKind_4 ?_
  refine ax_bipush (pc := 5) (v := 6) C dX6_isOfKind_5 (by decide) ?_
  refine ax_icmp_ge (pc := 7) (tgt := 36) C dX6_isOfKind_7 (by decide) (fun _ => ?_) (fun z => False.elim (absurd z (by decide)))
  refine ax_iload_2 (pc := 36) C dX6_isOfKind_36 ?_
  refine ax_iload_1 (pc := 37) C dX6_isOfKind_37 ?_
  refine ax_icmp_ne (pc := 38) (tgt := 45) C dX6_isOfKind_38 (by decide) (fun _ => ?_) (fun z => False.elim (absurd z (by decide)))
  refine ax_iconst (pc := 45) (v := 0) C dX6_isOfKind_45 (by decide) ?_
  exact ax_zr (pc := 46) C rfl rfl dX6_isOfKind_46 rfl rfl

set_option maxRecDepth 20000 in
set_option maxHeartbeats 4000000 in
theorem w_X6_isOfKind_5_0 {Y : ax_Y} {ad : Nat → Nat} (F : ax_F Y) {l : Launch} {σ : ax_Z} : ax_m Y ad l iX6_isOfKind 1 σ [.int 5, .int 0] (some (.int 1)) σ := by
  obtain ⟨a0, hS0⟩ := ax_St_0 F
  refine ax_m.of F kX6_isOfKind.1 [some (.int (5)), some (.int (0)), none, none] rfl (Nat.le_of_ble_eq_true rfl) (fun x C => ?_)
  refine ax_iload_0 (pc := 0) C dX6_isOfKind_0 ?_
  refine ax_istore_2 (pc := 1) C dX6_isOfKind_1 rfl ?_
  refine ax_iconst (pc := 2) (v := 0) C dX6_isOfKind_2 (by decide) ?_
  refine ax_istore_3 (pc := 3) C dX6_isOfKind_3 rfl ?_
  refine ax_iload_3 (pc := 4) C dX6_isOfKind_4 ?_
  refine ax_bipush (pc := 5) (v := 6) C dX6_isOfKind_5 (by decide) ?_
  refine ax_icmp_ge (pc := 7) (tgt := 36) C dX6_isOfKind_7 (by decide) (fun z => False.elim (absurd z (by decide))) (fun _ => ?_)
  refine ax_iload_2 (pc := 10) C dX6_isOfKind_10 ?_
  refine ax_iload_1 (pc := 11) C dX6_isOfKind_11 ?_
  refine ax_icmp_eq (pc := 12) (tgt := 36) C dX6_isOfKind_12 (by decide) (fun z => False.elim (absurd z (by decide))) (fun _ => ?_)
  refine ax_iload_2 (pc := 15) C dX6_isOfKind_15 ?_
  refine ax_iconst (pc := 16) (v := 0) C dX6_isOfKind_16 (by decide) ?_
  refine ax_iconst (pc := 17) (v := 5) C dX6_isOfKind_17 (by decide) ?_
  refine ax_callSi (pc := 18) C (w_X6_isWithin F) kX6_isWithin mX6_59 dX6_isOfKind_18 (by decide) rfl rfl (Nat.le_of_ble_eq_true rfl) rfl ⟨Nat.le_refl _, Nat.le_refl _⟩ ?_
  refine ax_if_eq (pc := 21) (tgt := 36) C dX6_isOfKind_21 (by decide) (fun z => False.elim (ax_beq z (by decide))) (fun _ => ?_)
  refine ax_gets (pc := 24) C hS0 st_254 dX6_isOfKind_24 ?_
  refine ax_iload_2 (pc := 27) C dX6_isOfKind_27 ?_
  refine ax_sta (pc := 28) C hS0 (w := 4) 5 (by decide) rfl rfl dX6_isOfKind_28 ?_
  refine ax_istore_2 (pc := 29) C dX6_isOfKind_29 rfl ?_
  refine ax_iinc_3 (pc := 30) C dX6_isOfKind_30 (1) (by decide) rfl ?_
  refine ax_goto (pc := 33) (tgt := 4) C dX6_isOfKind_33 (by decide) ?_
  refine ax_iload_3 (pc := 4) C dX6_isOfKind_4 ?_
  refine ax_bipush (pc := 5) (v := 6) C dX6_isOfKind_5 (by decide) ?_
  refine ax_icmp_ge (pc := 7) (tgt := 36) C dX6_isOfKind_7 (by decide) (fun z => False.elim (absurd z (by decide))) (fun _ => ?_)
  refine ax_iload_2 (pc := 10) C dX6_isOfKind_10 ?_
  refine ax_iload_1 (pc := 11) C dX6_isOfKind_11 ?_
  refine ax_icmp_eq (pc := 12) (tgt := 36) C dX6_isOfKind_12 (by decide) (fun z => False.elim (absurd z (by decide))) (fun _ => ?_)
  refine ax_iload_2 (pc := 15) C dX6_isOfKind_15 ?_
  refine ax_iconst (pc := 16) (v := 0) C dX6_isOfKind_16 (by decide) ?_
  refine ax_iconst (pc := 17) (v := 5) C dX6_isOfKind_17 (by decide) ?_
  refine ax_callSi (pc := 18) C (w_X6_isWithin F) kX6_isWithin mX6_59 dX6_isOfKind_18 (by decide) rfl rfl (Nat.le_of_ble_eq_true rfl) rfl ⟨Nat.le_refl _, Nat.le_refl _⟩ ?_
  refine ax_if_eq (pc := 21) (tgt := 36) C dX6_isOfKind_21 (by decide) (fun z => False.elim (ax_beq z (by decide))) (fun _ => ?_)
  refine ax_gets (pc := 24) C hS0 st_254 dX6_isOfKind_24 ?_
  refine ax_iload_2 (pc := 27) C dX6_isOfKind_27 ?_
  refine ax_sta (pc := 28) C hS0 (w := 0) 4 (by decide) rfl rfl dX6_isOfKind_28 ?_
  refine ax_istore_2 (pc := 29) C dX6_isOfKind_29 rfl ?_
  refine ax_iinc_3 (pc := 30) C dX6_isOfKind_30 (1) (by decide) rfl ?_
  refine ax_goto (pc := 33) (tgt := 4) C dX6_isOfKind_33 (by decide) ?_
  refine ax_iload_3 (pc := 4) C dX6_isOfKind_4 ?_
  refine ax_bipush (pc := 5) (v := 6) C dX6_isOfKind_5 (by decide) ?_
  refine ax_icmp_ge (pc := 7) (tgt := 36) C dX6_isOfKind_7 (by decide) (fun z => False.elim (absurd z (by decide))) (fun _ => ?_)
  refine ax_iload_2 (pc := 10) C dX6_isOfKind_10 ?_
  refine ax_iload_1 (pc := 11) C dX6_isOfKind_11 ?_
  refine ax_icmp_eq (pc := 12) (tgt := 36) C dX6_isOfKind_12 (by decide) (fun _ => ?_) (fun z => False.elim (absurd z (by decide)))
  refine ax_iload_2 (pc := 36) C dX6_isOfKind_36 ?_
  refine ax_iload_1 (pc := 37) C dX6_isOfKind_37 ?_
  refine ax_icmp_ne (pc := 38) (tgt := 45) C dX6_isOfKind_38 (by decide) (fun z => False.elim (absurd z (by decide))) (fun _ => ?_)
  refine ax_iconst (pc := 41) (v := 1) C dX6_isOfKind_41 (by decide) ?_
  refine ax_goto (pc := 42) (tgt := 46) C dX6_isOfKind_42 (by decide) ?_
  exact ax_zr (pc := 46) C rfl rfl dX6_isOfKind_46 rfl rfl

set_option maxRecDepth 20000 in
set_option maxHeartbeats 4000000 in
theorem w_X6_isOfKind_5_1 {Y : ax_Y} {ad : Nat → Nat} (F : ax_F Y) {l : Launch} {σ : ax_Z} : ax_m Y ad l iX6_isOfKind 1 σ [.int 5, .int 1] (some (.int 0)) σ := by
  obtain ⟨a0, hS0⟩ := ax_St_0 F
  refine ax_m.of F kX6_isOfKind.1 [some (.int (5)), some (.int (1)), none, none] rfl (Nat.le_of_ble_eq_true rfl) (fun x C => ?_)
  refine ax_iload_0 (pc := 0) C dX6_isOfKind_0 ?_
  refine ax_istore_2 (pc := 1) C dX6_isOfKind_1 rfl ?_
  refine ax_iconst (pc := 2) (v := 0) C dX6_isOfKind_2 (by decide) ?_
  refine ax_istore_3 (pc := 3) C dX6_isOfKind_3 rfl ?_
  refine ax_iload_3 (pc := 4) C dX6_isOfKind_4 ?_
  refine ax_bipush (pc := 5) (v := 6) C dX6_isOfKind_5 (by decide) ?_
  refine ax_icmp_ge (pc := 7) (tgt := 36) C dX6_isOfKind_7 (by decide) (fun z => False.elim (absurd z (by decide))) (fun _ => ?_)
  refine ax_iload_2 (pc := 10) C dX6_isOfKind_10 ?_
  refine ax_iload_1 (pc := 11) C dX6_isOfKind_11 ?_
  refine ax_icmp_eq (pc := 12) (tgt := 36) C dX6_isOfKind_12 (by decide) (fun z => False.elim (absurd z (by decide))) (fun _ => ?_)
  refine ax_iload_2 (pc := 15) C dX6_isOfKind_15 ?_
  refine ax_iconst (pc := 16) (v := 0) C dX6_isOfKind_16 (by decide) ?_
  refine ax_iconst (pc := 17) (v := 5) C dX6_isOfKind_17 (by decide) ?_
  refine ax_callSi (pc := 18) C (w_X6_isWithin F) kX6_isWithin mX6_59 dX6_isOfKind_18 (by decide) rfl rfl (Nat.le_of_ble_eq_true rfl) rfl ⟨Nat.le_refl _, Nat.le_refl _⟩ ?_
  refine ax_if_eq (pc := 21) (tgt := 36) C dX6_isOfKind_21 (by decide) (fun z => False.elim (ax_beq z (by decide))) (fun _ => ?_)
  refine ax_gets (pc := 24) C hS0 st_254 dX6_isOfKind_24 ?_
  refine ax_iload_2 (pc := 27) C dX6_isOfKind_27 ?_
  refine ax_sta (pc := 28) C hS0 (w := 4) 5 (by decide) rfl rfl dX6_isOfKind_28 ?_
  refine ax_istore_2 (pc := 29) C dX6_isOfKind_29 rfl ?_
  refine ax_iinc_3 (pc := 30) C dX6_isOfKind_30 (1) (by decide) rfl ?_
  refine ax_goto (pc := 33) (tgt := 4) C dX6_isOfKind_33 (by decide) ?_
  refine ax_iload_3 (pc := 4) C dX6_isOfKind_4 ?_
  refine ax_bipush (pc := 5) (v := 6) C dX6_isOfKind_5 (by decide) ?_
  refine ax_icmp_ge (pc := 7) (tgt := 36) C dX6_isOfKind_7 (by decide) (fun z => False.elim (absurd z (by decide))) (fun _ => ?_)
  refine ax_iload_2 (pc := 10) C dX6_isOfKind_10 ?_
  refine ax_iload_1 (pc := 11) C dX6_isOfKind_11 ?_
  refine ax_icmp_eq (pc := 12) (tgt := 36) C dX6_isOfKind_12 (by decide) (fun z => False.elim (absurd z (by decide))) (fun _ => ?_)
  refine ax_iload_2 (pc := 15) C dX6_isOfKind_15 ?_
  refine ax_iconst (pc := 16) (v := 0) C dX6_isOfKind_16 (by decide) ?_
  refine ax_iconst (pc := 17) (v := 5) C dX6_isOfKind_17 (by decide) ?_
  refine ax_callSi (pc := 18) C (w_X6_isWithin F) kX6_isWithin mX6_59 dX6_isOfKind_18 (by decide) rfl rfl (Nat.le_of_ble_eq_true rfl) rfl ⟨Nat.le_refl _, Nat.le_refl _⟩ ?_
  refine ax_if_eq (pc := 21) (tgt := 36) C dX6_isOfKind_21 (by decide) (fun z => False.elim (ax_beq z (by decide))) (fun _ => ?_)
  refine ax_gets (pc := 24) C hS0 st_254 dX6_isOfKind_24 ?_
  refine ax_iload_2 (pc := 27) C dX6_isOfKind_27 ?_
  refine ax_sta (pc := 28) C hS0 (w := 0) 4 (by decide) rfl rfl dX6_isOfKind_28 ?_
  refine ax_istore_2 (pc := 29) C dX6_isOfKind_29 rfl ?_
  refine ax_iinc_3 (pc := 30) C dX6_isOfKind_30 (1) (by decide) rfl ?_
  refine ax_goto (pc := 33) (tgt := 4) C dX6_isOfKind_33 (by decide) ?_
  refine ax_iload_3 (pc := 4) C dX6_isOfKind_4 ?_
  refine ax_bipush (pc := 5) (v := 6) C dX6_isOfKind_5 (by decide) ?_
  refine ax_icmp_ge (pc := 7) (tgt := 36) C dX6_isOfKind_7 (by decide) (fun z => False.elim (absurd z (by decide))) (fun _ => ?_)
  refine ax_iload_2 (pc := 10) C dX6_isOfKind_10 ?_
  refine ax_iload_1 (pc := 11) C dX6_isOfKind_11 ?_
  refine ax_icmp_eq (pc := 12) (tgt := 36) C dX6_isOfKind_12 (by decide) (fun z => False.elim (absurd z (by decide))) (fun _ => ?_)
  refine ax_iload_2 (pc := 15) C dX6_isOfKind_15 ?_
  refine ax_iconst (pc := 16) (v := 0) C dX6_isOfKind_16 (by decide) ?_
  refine ax_iconst (pc := 17) (v := 5) C dX6_isOfKind_17 (by decide) ?_
  refine ax_callSi (pc := 18) C (w_X6_isWithin F) kX6_isWithin mX6_59 dX6_isOfKind_18 (by decide) rfl rfl (Nat.le_of_ble_eq_true rfl) rfl ⟨Nat.le_refl _, Nat.le_refl _⟩ ?_
  refine ax_if_eq (pc := 21) (tgt := 36) C dX6_isOfKind_21 (by decide) (fun z => False.elim (ax_beq z (by decide))) (fun _ => ?_)
  refine ax_gets (pc := 24) C hS0 st_254 dX6_isOfKind_24 ?_
  refine ax_iload_2 (pc := 27) C dX6_isOfKind_27 ?_
  refine ax_sta (pc := 28) C hS0 (w := 0) 0 (by decide) rfl rfl dX6_isOfKind_28 ?_
  refine ax_istore_2 (pc := 29) C dX6_isOfKind_29 rfl ?_
  refine ax_iinc_3 (pc := 30) C dX6_isOfKind_30 (1) (by decide) rfl ?_
  refine ax_goto (pc := 33) (tgt := 4) C dX6_isOfKind_33 (by decide) ?_
  refine ax_iload_3 (pc := 4) C dX6_isOfKind_4 ?_
  refine ax_bipush (pc := 5) (v := 6) C dX6_isOfKind_5 (by decide) ?_
  refine ax_icmp_ge (pc := 7) (tgt := 36) C dX6_isOfKind_7 (by decide) (fun z => False.elim (absurd z (by decide))) (fun _ => ?_)
  refine ax_iload_2 (pc := 10) C dX6_isOfKind_10 ?_
  refine ax_iload_1 (pc := 11) C dX6_isOfKind_11 ?_
  refine ax_icmp_eq (pc := 12) (tgt := 36) C dX6_isOfKind_12 (by decide) (fun z => False.elim (absurd z (by decide))) (fun _ => ?_)
  refine ax_iload_2 (pc := 15) C dX6_isOfKind_15 ?_
  refine ax_iconst (pc := 16) (v := 0) C dX6_isOfKind_16 (by decide) ?_
  refine ax_iconst (pc := 17) (v := 5) C dX6_isOfKind_17 (by decide) ?_
  refine ax_callSi (pc := 18) C (w_X6_isWithin F) kX6_isWithin mX6_59 dX6_isOfKind_18 (by decide) rfl rfl (Nat.le_of_ble_eq_true rfl) rfl ⟨Nat.le_refl _, Nat.le_refl _⟩ ?_
  refine ax_if_eq (pc := 21) (tgt := 36) C dX6_isOfKind_21 (by decide) (fun z => False.elim (ax_beq z (by decide))) (fun _ => ?_)
  refine ax_gets (pc := 24) C hS0 st_254 dX6_isOfKind_24 ?_
  refine ax_iload_2 (pc := 27) C dX6_isOfKind_27 ?_
  refine ax_sta (pc := 28) C hS0 (w := 0) 0 (by decide) rfl rfl dX6_isOfKind_28 ?_
  refine ax_istore_2 (pc := 29) C dX6_isOfKind_29 rfl ?_
  refine ax_iinc_3 (pc := 30) C dX6_isOfKind_30 (1) (by decide) rfl ?_
  refine ax_goto (pc := 33) (tgt := 4) C dX6_isOfKind_33 (by decide) ?_
  refine ax_iload_3 (pc := 4) C dX6_isOfKind_4 ?_
  refine ax_bipush (pc := 5) (v := 6) C dX6_isOfKind_5 (by decide) ?_
  refine ax_icmp_ge (pc := 7) (tgt := 36) C dX6_isOfKind_7 (by decide) (fun z => False.elim (absurd z (by decide))) (fun _ => ?_)
  refine ax_iload_2 (pc := 10) C dX6_isOfKind_10 ?_
  refine ax_iload_1 (pc := 11) C dX6_isOfKind_11 ?_
  refine ax_icmp_eq (pc := 12) (tgt := 36) C dX6_isOfKind_12 (by decide) (fun z => False.elim (absurd z (by decide))) (fun _ => ?_)
  refine ax_iload_2 (pc := 15) C dX6_isOfKind_15 ?_
  refine ax_iconst (pc := 16) (v := 0) C dX6_isOfKind_16 (by decide) ?_
  refine ax_iconst (pc := 17) (v := 5) C dX6_isOfKind_17 (by decide) ?_
  refine ax_callSi (pc := 18) C (w_X6_isWithin F) kX6_isWithin mX6_59 dX6_isOfKind_18 (by decide) rfl rfl (Nat.le_of_ble_eq_true rfl) rfl ⟨Nat.le_refl _, Nat.le_refl _⟩ ?_
  refine ax_if_eq (pc := 21) (tgt := 36) C dX6_isOfKind_21 (by decide) (fun z => False.elim (ax_beq z (by decide))) (fun _ => ?_)
  refine ax_gets (pc := 24) C hS0 st_254 dX6_isOfKind_24 ?_
  refine ax_iload_2 (pc := 27) C dX6_isOfKind_27 ?_
  refine ax_sta (pc := 28) C hS0 (w := 0) 0 (by decide) rfl rfl dX6_isOfKind_28 ?_
  refine ax_istore_2 (pc := 29) C dX6_isOfKind_29 rfl ?_
  refine ax_iinc_3 (pc := 30) C dX6_isOfKind_30 (1) (by decide) rfl ?_
  refine ax_goto (pc := 33) (tgt := 4) C dX6_isOfKind_33 (by decide) ?_
  refine ax_iload_3 (pc := 4) C dX6_isOfKind_4 ?_
  refine ax_bipush (pc := 5) (v := 6) C dX6_isOfKind_5 (by decide) ?_
  refine ax_icmp_ge (pc := 7) (tgt := 36) C dX6_isOfKind_7 (by decide) (fun z => False.elim (absurd z (by decide))) (fun _ => ?_)
  refine ax_iload_2 (pc := 10) C dX6_isOfKind_10 ?_
  refine ax_iload_1 (pc := 11) C dX6_isOfKind_11 ?_
  refine ax_icmp_eq (pc := 12) (tgt := 36) C dX6_isOfKind_12 (by decide) (fun z => False.elim (absurd z (by decide))) (fun _ => ?_)
  refine ax_iload_2 (pc := 15) C dX6_isOfKind_15 ?_
  refine ax_iconst (pc := 16) (v := 0) C dX6_isOfKind_16 (by decide) ?_
  refine ax_iconst (pc := 17) (v := 5) C dX6_isOfKind_17 (by decide) ?_
  refine ax_callSi (pc := 18) C (w_X6_isWithin F) kX6_isWithin mX6_59 dX6_isOfKind_18 (by decide) rfl rfl (Nat.le_of_ble_eq_true rfl) rfl ⟨Nat.le_refl _, Nat.le_refl _⟩ ?_
  refine ax_if_eq (pc := 21) (tgt := 36) C dX6_isOfKind_21 (by decide) (fun z => False.elim (ax_beq z (by decide))) (fun _ => ?_)
  refine ax_gets (pc := 24) C hS0 st_254 dX6_isOfKind_24 ?_
  refine ax_iload_2 (pc := 27) C dX6_isOfKind_27 ?_
  refine ax_sta (pc := 28) C hS0 (w := 0) 0 (by decide) rfl rfl dX6_isOfKind_28 ?_
  refine ax_istore_2 (pc := 29) C dX6_isOfKind_29 rfl ?_
  refine ax_iinc_3 (pc := 30) C dX6_isOfKind_30 (1) (by decide) rfl ?_
  refine ax_goto (pc := 33) (tgt := 4) C dX6_isOfKind_33 (by decide) ?_
  refine ax_iload_3 (pc := 4) C dX6_isOfKind_4 ?_
  refine ax_bipush (pc := 5) (v := 6) C dX6_isOfKind_5 (by decide) ?_
  refine ax_icmp_ge (pc := 7) (tgt := 36) C dX6_isOfKind_7 (by decide) (fun _ => ?_) (fun z => False.elim (absurd z (by decide)))
  refine ax_iload_2 (pc := 36) C dX6_isOfKind_36 ?_
  refine ax_iload_1 (pc := 37) C dX6_isOfKind_37 ?_
  refine ax_icmp_ne (pc := 38) (tgt := 45) C dX6_isOfKind_38 (by decide) (fun _ => ?_) (fun z => False.elim (absurd z (by decide)))
  refine ax_iconst (pc := 45) (v := 0) C dX6_isOfKind_45 (by decide) ?_
  exact ax_zr (pc := 46) C rfl rfl dX6_isOfKind_46 rfl rfl

set_option maxRecDepth 20000 in
set_option maxHeartbeats 4000000 in
theorem w_X6_isOfKind_5_2 {Y : ax_Y} {ad : Nat → Nat} (F : ax_F Y) {l : Launch} {σ : ax_Z} : ax_m Y ad l iX6_isOfKind 1 σ [.int 5, .int 2] (some (.int 0)) σ := by
  obtain ⟨a0, hS0⟩ := ax_St_0 F
  refine ax_m.of F kX6_isOfKind.1 [some (.int (5)), some (.int (2)), none, none] rfl (Nat.le_of_ble_eq_true rfl) (fun x C => ?_)
  refine ax_iload_0 (pc := 0) C dX6_isOfKind_0 ?_
  refine ax_istore_2 (pc := 1) C dX6_isOfKind_1 rfl ?_
  refine ax_iconst (pc := 2) (v := 0) C dX6_isOfKind_2 (by decide) ?_
  refine ax_istore_3 (pc := 3) C dX6_isOfKind_3 rfl ?_
  refine ax_iload_3 (pc := 4) C dX6_isOfKind_4 ?_
  refine ax_bipush (pc := 5) (v := 6) C dX6_isOfKind_5 (by decide) ?_
  refine ax_icmp_ge (pc := 7) (tgt := 36) C dX6_isOfKind_7 (by decide) (fun z => False.elim (absurd z (by decide))) (fun _ => ?_)
  refine ax_iload_2 (pc := 10) C dX6_isOfKind_10 ?_
  refine ax_iload_1 (pc := 11) C dX6_isOfKind_11 ?_
  refine ax_icmp_eq (pc := 12) (tgt := 36) C dX6_isOfKind_12 (by decide) (fun z => False.elim (absurd z (by decide))) (fun _ => ?_)
  refine ax_iload_2 (pc := 15) C dX6_isOfKind_15 ?_
  refine ax_iconst (pc := 16) (v := 0) C dX6_isOfKind_16 (by decide) ?_
  refine ax_iconst (pc := 17) (v := 5) C dX6_isOfKind_17 (by decide) ?_
  refine ax_callSi (pc := 18) C (w_X6_isWithin F) kX6_isWithin mX6_59 dX6_isOfKind_18 (by decide) rfl rfl (Nat.le_of_ble_eq_true rfl) rfl ⟨Nat.le_refl _, Nat.le_refl _⟩ ?_
  refine ax_if_eq (pc := 21) (tgt := 36) C dX6_isOfKind_21 (by decide) (fun z => False.elim (ax_beq z (by decide))) (fun _ => ?_)
  refine ax_gets (pc := 24) C hS0 st_254 dX6_isOfKind_24 ?_
  refine ax_iload_2 (pc := 27) C dX6_isOfKind_27 ?_
  refine ax_sta (pc := 28) C hS0 (w := 4) 5 (by decide) rfl rfl dX6_isOfKind_28 ?_
  refine ax_istore_2 (pc := 29) C dX6_isOfKind_29 rfl ?_
  refine ax_iinc_3 (pc := 30) C dX6_isOfKind_30 (1) (by decide) rfl ?_
  refine ax_goto (pc := 33) (tgt := 4) C dX6_isOfKind_33 (by decide) ?_
  refine ax_iload_3 (pc := 4) C dX6_isOfKind_4 ?_
  refine ax_bipush (pc := 5) (v := 6) C dX6_isOfKind_5 (by decide) ?_
  refine ax_icmp_ge (pc := 7) (tgt := 36) C dX6_isOfKind_7 (by decide) (fun z => False.elim (absurd z (by decide))) (fun _ => ?_)
  refine ax_iload_2 (pc := 10) C dX6_isOfKind_10 ?_
  refine ax_iload_1 (pc := 11) C dX6_isOfKind_11 ?_
  refine ax_icmp_eq (pc := 12) (tgt := 36) C dX6_isOfKind_12 (by decide) (fun z => False.elim (absurd z (by decide))) (fun _ => ?_)
  refine ax_iload_2 (pc := 15) C dX6_isOfKind_15 ?_
  refine ax_iconst (pc := 16) (v := 0) C dX6_isOfKind_16 (by decide) ?_
  refine ax_iconst (pc := 17) (v := 5) C dX6_isOfKind_17 (by decide) ?_
  refine ax_callSi (pc := 18) C (w_X6_isWithin F) kX6_isWithin mX6_59 dX6_isOfKind_18 (by decide) rfl rfl (Nat.le_of_ble_eq_true rfl) rfl ⟨Nat.le_refl _, Nat.le_refl _⟩ ?_
  refine ax_if_eq (pc := 21) (tgt := 36) C dX6_isOfKind_21 (by decide) (fun z => False.elim (ax_beq z (by decide))) (fun _ => ?_)
  refine ax_gets (pc := 24) C hS0 st_254 dX6_isOfKind_24 ?_
  refine ax_iload_2 (pc := 27) C dX6_isOfKind_27 ?_
  refine ax_sta (pc := 28) C hS0 (w := 0) 4 (by decide) rfl rfl dX6_isOfKind_28 ?_
  refine ax_istore_2 (pc := 29) C dX6_isOfKind_29 rfl ?_
  refine ax_iinc_3 (pc := 30) C dX6_isOfKind_30 (1) (by decide) rfl ?_
  refine ax_goto (pc := 33) (tgt := 4) C dX6_isOfKind_33 (by decide) ?_
  refine ax_iload_3 (pc := 4) C dX6_isOfKind_4 ?_
  refine ax_bipush (pc := 5) (v := 6) C dX6_isOfKind_5 (by decide) ?_
  refine ax_icmp_ge (pc := 7) (tgt := 36) C dX6_isOfKind_7 (by decide) (fun z => False.elim (absurd z (by decide))) (fun _ => ?_)
  refine ax_iload_2 (pc := 10) C dX6_isOfKind_10 ?_
  refine ax_iload_1 (pc := 11) C dX6_isOfKind_11 ?_
  refine ax_icmp_eq (pc := 12) (tgt := 36) C dX6_isOfKind_12 (by decide) (fun z => False.elim (absurd z (by decide))) (fun _ => ?_)
  refine ax_iload_2 (pc := 15) C dX6_isOfKind_15 ?_
  refine ax_iconst (pc := 16) (v := 0) C dX6_isOfKind_16 (by decide) ?_
  refine ax_iconst (pc := 17) (v := 5) C dX6_isOfKind_17 (by decide) ?_
  refine ax_callSi (pc := 18) C (w_X6_isWithin F) kX6_isWithin mX6_59 dX6_isOfKind_18 (by decide) rfl rfl (Nat.le_of_ble_eq_true rfl) rfl ⟨Nat.le_refl _, Nat.le_refl _⟩ ?_
  refine ax_if_eq (pc := 21) (tgt := 36) C dX6_isOfKind_21 (by decide) (fun z => False.elim (ax_beq z (by decide))) (fun _ => ?_)
  refine ax_gets (pc := 24) C hS0 st_254 dX6_isOfKind_24 ?_
  refine ax_iload_2 (pc := 27) C dX6_isOfKind_27 ?_
  refine ax_sta (pc := 28) C hS0 (w := 0) 0 (by decide) rfl rfl dX6_isOfKind_28 ?_
  refine ax_istore_2 (pc := 29) C dX6_isOfKind_29 rfl ?_
  refine ax_iinc_3 (pc := 30) C dX6_isOfKind_30 (1) (by decide) rfl ?_
  refine ax_goto (pc := 33) (tgt := 4) C dX6_isOfKind_33 (by decide) ?_
  refine ax_iload_3 (pc := 4) C dX6_isOfKind_4 ?_
  refine ax_bipush (pc := 5) (v := 6) C dX6_isOfKind_5 (by decide) ?_
  refine ax_icmp_ge (pc := 7) (tgt := 36) C dX6_isOfKind_7 (by decide) (fun z => False.elim (absurd z (by decide))) (fun _ => ?_)
  refine ax_iload_2 (pc := 10) C dX6_isOfKind_10 ?_
  refine ax_iload_1 (pc := 11) C dX6_isOfKind_11 ?_
  refine ax_icmp_eq (pc := 12) (tgt := 36) C dX6_isOfKind_12 (by decide) (fun z => False.elim (absurd z (by decide))) (fun _ => ?_)
  refine ax_iload_2 (pc := 15) C dX6_isOfKind_15 ?_
  refine ax_iconst (pc := 16) (v := 0) C dX6_isOfKind_16 (by decide) ?_
  refine ax_iconst (pc := 17) (v := 5) C dX6_isOfKind_17 (by decide) ?_
  refine ax_callSi (pc := 18) C (w_X6_isWithin F) kX6_isWithin mX6_59 dX6_isOfKind_18 (by decide) rfl rfl (Nat.le_of_ble_eq_true rfl) rfl ⟨Nat.le_refl _, Nat.le_refl _⟩ ?_
  refine ax_if_eq (pc := 21) (tgt := 36) C dX6_isOfKind_21 (by decide) (fun z => False.elim (ax_beq z (by decide))) (fun _ => ?_)
  refine ax_gets (pc := 24) C hS0 st_254 dX6_isOfKind_24 ?_
  refine ax_iload_2 (pc := 27) C dX6_isOfKind_27 ?_
  refine ax_sta (pc := 28) C hS0 (w := 0) 0 (by decide) rfl rfl dX6_isOfKind_28 ?_
  refine ax_istore_2 (pc := 29) C dX6_isOfKind_29 rfl ?_
  refine ax_iinc_3 (pc := 30) C dX6_isOfKind_30 (1) (by decide) rfl ?_
  refine ax_goto (pc := 33) (tgt := 4) C dX6_isOfKind_33 (by decide) ?_
  refine ax_iload_3 (pc := 4) C dX6_isOfKind_4 ?_
  refine ax_bipush (pc := 5) (v := 6) C dX6_isOfKind_5 (by decide) ?_
  refine ax_icmp_ge (pc := 7) (tgt := 36) C dX6_isOfKind_7 (by decide) (fun z => False.elim (absurd z (by decide))) (fun _ => ?_)
  refine ax_iload_2 (pc := 10) C dX6_isOfKind_10 ?_
  refine ax_iload_1 (pc := 11) C dX6_isOfKind_11 ?_
  refine ax_icmp_eq (pc := 12) (tgt := 36) C dX6_isOfKind_12 (by decide) (fun z => False.elim (absurd z (by decide))) (fun _ => ?_)
  refine ax_iload_2 (pc := 15) C dX6_isOfKind_15 ?_
  refine ax_iconst (pc := 16) (v := 0) C dX6_isOfKind_16 (by decide) ?_
  refine ax_iconst (pc := 17) (v := 5) C dX6_isOfKind_17 (by decide) ?_
  refine ax_callSi (pc := 18) C (w_X6_isWithin F) kX6_isWithin mX6_59 dX6_isOfKind_18 (by decide) rfl rfl (Nat.le_of_ble_eq_true rfl) rfl ⟨Nat.le_refl _, Nat.le_refl _⟩ ?_
  refine ax_if_eq (pc := 21) (tgt := 36) C dX6_isOfKind_21 (by decide) (fun z => False.elim (ax_beq z (by decide))) (fun _ => ?_)
  refine ax_gets (pc := 24) C hS0 st_254 dX6_isOfKind_24 ?_
  refine ax_iload_2 (pc := 27) C dX6_isOfKind_27 ?_
  refine ax_sta (pc := 28) C hS0 (w := 0) 0 (by decide) rfl rfl dX6_isOfKind_28 ?_
  refine ax_istore_2 (pc := 29) C dX6_isOfKind_29 rfl ?_
  refine ax_iinc_3 (pc := 30) C dX6_isOfKind_30 (1) (by decide) rfl ?_
  refine ax_goto (pc := 33) (tgt := 4) C dX6_isOfKind_33 (by decide) ?_
  refine ax_iload_3 (pc := 4) C dX6_isOfKind_4 ?_
  refine ax_bipush (pc := 5) (v := 6) C dX6_isOfKind_5 (by decide) ?_
  refine ax_icmp_ge (pc := 7) (tgt := 36) C dX6_isOfKind_7 (by decide) (fun z => False.elim (absurd z (by decide))) (fun _ => ?_)
  refine ax_iload_2 (pc := 10) C dX6_isOfKind_10 ?_
  refine ax_iload_1 (pc := 11) C dX6_isOfKind_11 ?_
  refine ax_icmp_eq (pc := 12) (tgt := 36) C dX6_isOfKind_12 (by decide) (fun z => False.elim (absurd z (by decide))) (fun _ => ?_)
  refine ax_iload_2 (pc := 15) C dX6_isOfKind_15 ?_
  refine ax_iconst (pc := 16) (v := 0) C dX6_isOfKind_16 (by decide) ?_
  refine ax_iconst (pc := 17) (v := 5) C dX6_isOfKind_17 (by decide) ?_
  refine ax_callSi (pc := 18) C (w_X6_isWithin F) kX6_isWithin mX6_59 dX6_isOfKind_18 (by decide) rfl rfl (Nat.le_of_ble_eq_true rfl) rfl ⟨Nat.le_refl _, Nat.le_refl _⟩ ?_
  refine ax_if_eq (pc := 21) (tgt := 36) C dX6_isOfKind_21 (by decide) (fun z => False.elim (ax_beq z (by decide))) (fun _ => ?_)
  refine ax_gets (pc := 24) C hS0 st_254 dX6_isOfKind_24 ?_
  refine ax_iload_2 (pc := 27) C dX6_isOfKind_27 ?_
  refine ax_sta (pc := 28) C hS0 (w := 0) 0 (by decide) rfl rfl dX6_isOfKind_28 ?_
  refine ax_istore_2 (pc := 29) C dX6_isOfKind_29 rfl ?_
  refine ax_iinc_3 (pc := 30) C dX6_isOfKind_30 (1) (by decide) rfl ?_
  refine ax_goto (pc := 33) (tgt := 4) C dX6_isOfKind_33 (by decide) ?_
  refine ax_iload_3 (pc := 4) C dX6_isOfKind_4 ?_
  refine ax_bipush (pc := 5) (v := 6) C dX6_isOfKind_5 (by decide) ?_
  refine ax_icmp_ge (pc := 7) (tgt := 36) C dX6_isOfKind_7 (by decide) (fun _ => ?_) (fun z => False.elim (absurd z (by decide)))
  refine ax_iload_2 (pc := 36) C dX6_isOfKind_36 ?_
  refine ax_iload_1 (pc := 37) C dX6_isOfKind_37 ?_
  refine ax_icmp_ne (pc := 38) (tgt := 45) C dX6_isOfKind_38 (by decide) (fun _ => ?_) (fun z => False.elim (absurd z (by decide)))
  refine ax_iconst (pc := 45) (v := 0) C dX6_isOfKind_45 (by decide) ?_
  exact ax_zr (pc := 46) C rfl rfl dX6_isOfKind_46 rfl rfl

set_option maxRecDepth 20000 in
set_option maxHeartbeats 4000000 in
theorem w_X6_isOfKind_5_3 {Y : ax_Y} {ad : Nat → Nat} (F : ax_F Y) {l : Launch} {σ : ax_Z} : ax_m Y ad l iX6_isOfKind 1 σ [.int 5, .int 3] (some (.int 0)) σ := by
  obtain ⟨a0, hS0⟩ := ax_St_0 F
  refine ax_m.of F kX6_isOfKind.1 [some (.int (5)), some (.int (3)), none, none] rfl (Nat.le_of_ble_eq_true rfl) (fun x C => ?_)
  refine ax_iload_0 (pc := 0) C dX6_isOfKind_0 ?_
  refine ax_istore_2 (pc := 1) C dX6_isOfKind_1 rfl ?_
  refine ax_iconst (pc := 2) (v := 0) C dX6_isOfKind_2 (by decide) ?_
  refine ax_istore_3 (pc := 3) C dX6_isOfKind_3 rfl ?_
  refine ax_iload_3 (pc := 4) C dX6_isOfKind_4 ?_
  refine ax_bipush (pc := 5) (v := 6) C dX6_isOfKind_5 (by decide) ?_
  refine ax_icmp_ge (pc := 7) (tgt := 36) C dX6_isOfKind_7 (by decide) (fun z => False.elim (absurd z (by decide))) (fun _ => ?_)
  refine ax_iload_2 (pc := 10) C dX6_isOfKind_10 ?_
  refine ax_iload_1 (pc := 11) C dX6_isOfKind_11 ?_
  refine ax_icmp_eq (pc := 12) (tgt := 36) C dX6_isOfKind_12 (by decide) (fun z => False.elim (absurd z (by decide))) (fun _ => ?_)
  refine ax_iload_2 (pc := 15) C dX6_isOfKind_15 ?_
  refine ax_iconst (pc := 16) (v := 0) C dX6_isOfKind_16 (by decide) ?_
  refine ax_iconst (pc := 17) (v := 5) C dX6_isOfKind_17 (by decide) ?_
  refine ax_callSi (pc := 18) C (w_X6_isWithin F) kX6_isWithin mX6_59 dX6_isOfKind_18 (by decide) rfl rfl (Nat.le_of_ble_eq_true rfl) rfl ⟨Nat.le_refl _, Nat.le_refl _⟩ ?_
  refine ax_if_eq (pc := 21) (tgt := 36) C dX6_isOfKind_21 (by decide) (fun z => False.elim (ax_beq z (by decide))) (fun _ => ?_)
  refine ax_gets (pc := 24) C hS0 st_254 dX6_isOfKind_24 ?_
  refine ax_iload_2 (pc := 27) C dX6_isOfKind_27 ?_
  refine ax_sta (pc := 28) C hS0 (w := 4) 5 (by decide) rfl rfl dX6_isOfKind_28 ?_
  refine ax_istore_2 (pc := 29) C dX6_isOfKind_29 rfl ?_
  refine ax_iinc_3 (pc := 30) C dX6_isOfKind_30 (1) (by decide) rfl ?_
  refine ax_goto (pc := 33) (tgt := 4) C dX6_isOfKind_33 (by decide) ?_
  refine ax_iload_3 (pc := 4) C dX6_isOfKind_4 ?_
  refine ax_bipush (pc := 5) (v := 6) C dX6_isOfKind_5 (by decide) ?_
  refine ax_icmp_ge (pc := 7) (tgt := 36) C dX6_isOfKind_7 (by decide) (fun z => False.elim (absurd z (by decide))) (fun _ => ?_)
  refine ax_iload_2 (pc := 10) C dX6_isOfKind_10 ?_
  refine ax_iload_1 (pc := 11) C dX6_isOfKind_11 ?_
  refine ax_icmp_eq (pc := 12) (tgt := 36) C dX6_isOfKind_12 (by decide) (fun z => False.elim (absurd z (by decide))) (fun _ => ?_)
  refine ax_iload_2 (pc := 15) C dX6_isOfKind_15 ?_
  refine ax_iconst (pc := 16) (v := 0) C dX6_isOfKind_16 (by decide) ?_
  refine ax_iconst (pc := 17) (v := 5) C dX6_isOfKind_17 (by decide) ?_
  refine ax_callSi (pc := 18) C (w_X6_isWithin F) kX6_isWithin mX6_59 dX6_isOfKind_18 (by decide) rfl rfl (Nat.le_of_ble_eq_true rfl) rfl ⟨Nat.le_refl _, Nat.le_refl _⟩ ?_
  refine ax_if_eq (pc := 21) (tgt := 36) C dX6_isOfKind_21 (by decide) (fun z => False.elim (ax_beq z (by decide))) (fun _ => ?_)
  refine ax_gets (pc := 24) C hS0 st_254 dX6_isOfKind_24 ?_
  refine ax_iload_2 (pc := 27) C dX6_isOfKind_27 ?_
  refine ax_sta (pc := 28) C hS0 (w := 0) 4 (by decide) rfl rfl dX6_isOfKind_28 ?_
  refine ax_istore_2 (pc := 29) C dX6_isOfKind_29 rfl ?_
  refine ax_iinc_3 (pc := 30) C dX6_isOfKind_30 (1) (by decide) rfl ?_
  refine ax_goto (pc := 33) (tgt := 4) C dX6_isOfKind_33 (by decide) ?_
  refine ax_iload_3 (pc := 4) C dX6_isOfKind_4 ?_
  refine ax_bipush (pc := 5) (v := 6) C dX6_isOfKind_5 (by decide) ?_
  refine ax_icmp_ge (pc := 7) (tgt := 36) C dX6_isOfKind_7 (by decide) (fun z => False.elim (absurd z (by decide))) (fun _ => ?_)
  refine ax_iload_2 (pc := 10) C dX6_isOfKind_10 ?_
  refine ax_iload_1 (pc := 11) C dX6_isOfKind_11 ?_
  refine ax_icmp_eq (pc := 12) (tgt := 36) C dX6_isOfKind_12 (by decide) (fun z => False.elim (absurd z (by decide))) (fun _ => ?_)
  refine ax_iload_2 (pc := 15) C dX6_isOfKind_15 ?_
  refine ax_iconst (pc := 16) (v := 0) C dX6_isOfKind_16 (by decide) ?_
  refine ax_iconst (pc := 17) (v := 5) C dX6_isOfKind_17 (by decide) ?_
  refine ax_callSi (pc := 18) C (w_X6_isWithin F) kX6_isWithin mX6_59 dX6_isOfKind_18 (by decide) rfl rfl (Nat.le_of_ble_eq_true rfl) rfl ⟨Nat.le_refl _, Nat.le_refl _⟩ ?_
  refine ax_if_eq (pc := 21) (tgt := 36) C dX6_isOfKind_21 (by decide) (fun z => False.elim (ax_beq z (by decide))) (fun _ => ?_)
  refine ax_gets (pc := 24) C hS0 st_254 dX6_isOfKind_24 ?_
  refine ax_iload_2 (pc := 27) C dX6_isOfKind_27 ?_
  refine ax_sta (pc := 28) C hS0 (w := 0) 0 (by decide) rfl rfl dX6_isOfKind_28 ?_
  refine ax_istore_2 (pc := 29) C dX6_isOfKind_29 rfl ?_
  refine ax_iinc_3 (pc := 30) C dX6_isOfKind_30 (1) (by decide) rfl ?_
  refine ax_goto (pc := 33) (tgt := 4) C dX6_isOfKind_33 (by decide) ?_
  refine ax_iload_3 (pc := 4) C dX6_isOfKind_4 ?_
  refine ax_bipush (pc := 5) (v := 6) C dX6_isOfKind_5 (by decide) ?_
  refine ax_icmp_ge (pc := 7) (tgt := 36) C dX6_isOfKind_7 (by decide) (fun z => False.elim (absurd z (by decide))) (fun _ => ?_)
  refine ax_iload_2 (pc := 10) C dX6_isOfKind_10 ?_
  refine ax_iload_1 (pc := 11) C dX6_isOfKind_11 ?_
  refine ax_icmp_eq (pc := 12) (tgt := 36) C dX6_isOfKind_12 (by decide) (fun z => False.elim (absurd z (by decide))) (fun _ => ?_)
  refine ax_iload_2 (pc := 15) C dX6_isOfKind_15 ?_
  refine ax_iconst (pc := 16) (v := 0) C dX6_isOfKind_16 (by decide) ?_
  refine ax_iconst (pc := 17) (v := 5) C dX6_isOfKind_17 (by decide) ?_
  refine ax_callSi (pc := 18) C (w_X6_isWithin F) kX6_isWithin mX6_59 dX6_isOfKind_18 (by decide) rfl rfl (Nat.le_of_ble_eq_true rfl) rfl ⟨Nat.le_refl _, Nat.le_refl _⟩ ?_
  refine ax_if_eq (pc := 21) (tgt := 36) C dX6_isOfKind_21 (by decide) (fun z => False.elim (ax_beq z (by decide))) (fun _ => ?_)
  refine ax_gets (pc := 24) C hS0 st_254 dX6_isOfKind_24 ?_
  refine ax_iload_2 (pc := 27) C dX6_isOfKind_27 ?_
  refine ax_sta (pc := 28) C hS0 (w := 0) 0 (by decide) rfl rfl dX6_isOfKind_28 ?_
  refine ax_istore_2 (pc := 29) C dX6_isOfKind_29 rfl ?_
  refine ax_iinc_3 (pc := 30) C dX6_isOfKind_30 (1) (by decide) rfl ?_
  refine ax_goto (pc := 33) (tgt := 4) C dX6_isOfKind_33 (by decide) ?_
  refine ax_iload_3 (pc := 4) C dX6_isOfKind_4 ?_
  refine ax_bipush (pc := 5) (v := 6) C dX6_isOfKind_5 (by decide) ?_
  refine ax_icmp_ge (pc := 7) (tgt := 36) C dX6_isOfKind_7 (by decide) (fun z => False.elim (absurd z (by decide))) (fun _ => ?_)
  refine ax_iload_2 (pc := 10) C dX6_isOfKind_10 ?_
  refine ax_iload_1 (pc := 11) C dX6_isOfKind_11 ?_
  refine ax_icmp_eq (pc := 12) (tgt := 36) C dX6_isOfKind_12 (by decide) (fun z => False.elim (absurd z (by decide))) (fun _ => ?_)
  refine ax_iload_2 (pc := 15) C dX6_isOfKind_15 ?_
  refine ax_iconst (pc := 16) (v := 0) C dX6_isOfKind_16 (by decide) ?_
  refine ax_iconst (pc := 17) (v := 5) C dX6_isOfKind_17 (by decide) ?_
  refine ax_callSi (pc := 18) C (w_X6_isWithin F) kX6_isWithin mX6_59 dX6_isOfKind_18 (by decide) rfl rfl (Nat.le_of_ble_eq_true rfl) rfl ⟨Nat.le_refl _, Nat.le_refl _⟩ ?_
  refine ax_if_eq (pc := 21) (tgt := 36) C dX6_isOfKind_21 (by decide) (fun z => False.elim (ax_beq z (by decide))) (fun _ => ?_)
  refine ax_gets (pc := 24) C hS0 st_254 dX6_isOfKind_24 ?_
  refine ax_iload_2 (pc := 27) C dX6_isOfKind_27 ?_
  refine ax_sta (pc := 28) C hS0 (w := 0) 0 (by decide) rfl rfl dX6_isOfKind_28 ?_
  refine ax_istore_2 (pc := 29) C dX6_isOfKind_29 rfl ?_
  refine ax_iinc_3 (pc := 30) C dX6_isOfKind_30 (1) (by decide) rfl ?_
  refine ax_goto (pc := 33) (tgt := 4) C dX6_isOfKind_33 (by decide) ?_
  refine ax_iload_3 (pc := 4) C dX6_isOfKind_4 ?_
  refine ax_bipush (pc := 5) (v := 6) C dX6_isOfKind_5 (by decide) ?_
  refine ax_icmp_ge (pc := 7) (tgt := 36) C dX6_isOfKind_7 (by decide) (fun z => False.elim (absurd z (by decide))) (fun _ => ?_)
  refine ax_iload_2 (pc := 10) C dX6_isOfKind_10 ?_
  refine ax_iload_1 (pc := 11) C dX6_isOfKind_11 ?_
  refine ax_icmp_eq (pc := 12) (tgt := 36) C dX6_isOfKind_12 (by decide) (fun z => False.elim (absurd z (by decide))) (fun _ => ?_)
  refine ax_iload_2 (pc := 15) C dX6_isOfKind_15 ?_
  refine ax_iconst (pc := 16) (v := 0) C dX6_isOfKind_16 (by decide) ?_
  refine ax_iconst (pc := 17) (v := 5) C dX6_isOfKind_17 (by decide) ?_
  refine ax_callSi (pc := 18) C (w_X6_isWithin F) kX6_isWithin mX6_59 dX6_isOfKind_18 (by decide) rfl rfl (Nat.le_of_ble_eq_true rfl) rfl ⟨Nat.le_refl _, Nat.le_refl _⟩ ?_
  refine ax_if_eq (pc := 21) (tgt := 36) C dX6_isOfKind_21 (by decide) (fun z => False.elim (ax_beq z (by decide))) (fun _ => ?_)
  refine ax_gets (pc := 24) C hS0 st_254 dX6_isOfKind_24 ?_
  refine ax_iload_2 (pc := 27) C dX6_isOfKind_27 ?_
  refine ax_sta (pc := 28) C hS0 (w := 0) 0 (by decide) rfl rfl dX6_isOfKind_28 ?_
  refine ax_istore_2 (pc := 29) C dX6_isOfKind_29 rfl ?_
  refine ax_iinc_3 (pc := 30) C dX6_isOfKind_30 (1) (by decide) rfl ?_
  refine ax_goto (pc := 33) (tgt := 4) C dX6_isOfKind_33 (by decide) ?_
  refine ax_iload_3 (pc := 4) C dX6_isOfKind_4 ?_
  refine ax_bipush (pc := 5) (v := 6) C dX6_isOfKind_5 (by decide) ?_
  refine ax_icmp_ge (pc := 7) (tgt := 36) C dX6_isOfKind_7 (by decide) (fun _ => ?_) (fun z => False.elim (absurd z (by decide)))
  refine ax_iload_2 (pc := 36) C dX6_isOfKind_36 ?_
  refine ax_iload_1 (pc := 37) C dX6_isOfKind_37 ?_
  refine ax_icmp_ne (pc := 38) (tgt := 45) C dX6_isOfKind_38 (by decide) (fun _ => ?_) (fun z => False.elim (absurd z (by decide)))
  refine ax_iconst (pc := 45) (v := 0) C dX6_isOfKind_45 (by decide) ?_
  exact ax_zr (pc := 46) C rfl rfl dX6_isOfKind_46 rfl rfl

set_option maxRecDepth 20000 in
set_option maxHeartbeats 4000000 in
theorem w_X6_isOfKind_5_4 {Y : ax_Y} {ad : Nat → Nat} (F : ax_F Y) {l : Launch} {σ : ax_Z} : ax_m Y ad l iX6_isOfKind 1 σ [.int 5, .int 4] (some (.int 1)) σ := by
  obtain ⟨a0, hS0⟩ := ax_St_0 F
  refine ax_m.of F kX6_isOfKind.1 [some (.int (5)), some (.int (4)), none, none] rfl (Nat.le_of_ble_eq_true rfl) (fun x C => ?_)
  refine ax_iload_0 (pc := 0) C dX6_isOfKind_0 ?_
  refine ax_istore_2 (pc := 1) C dX6_isOfKind_1 rfl ?_
  refine ax_iconst (pc := 2) (v := 0) C dX6_isOfKind_2 (by decide) ?_
  refine ax_istore_3 (pc := 3) C dX6_isOfKind_3 rfl ?_
  refine ax_iload_3 (pc := 4) C dX6_isOfKind_4 ?_
  refine ax_bipush (pc := 5) (v := 6) C dX6_isOfKind_5 (by decide) ?_
  refine ax_icmp_ge (pc := 7) (tgt := 36) C dX6_isOfKind_7 (by decide) (fun z => False.elim (absurd z (by decide))) (fun _ => ?_)
  refine ax_iload_2 (pc := 10) C dX6_isOfKind_10 ?_
  refine ax_iload_1 (pc := 11) C dX6_isOfKind_11 ?_
  refine ax_icmp_eq (pc := 12) (tgt := 36) C dX6_isOfKind_12 (by decide) (fun z => False.elim (absurd z (by decide))) (fun _ => ?_)
  refine ax_iload_2 (pc := 15) C dX6_isOfKind_15 ?_
  refine ax_iconst (pc := 16) (v := 0) C dX6_isOfKind_16 (by decide) ?_
  refine ax_iconst (pc := 17) (v := 5) C dX6_isOfKind_17 (by decide) ?_
  refine ax_callSi (pc := 18) C (w_X6_isWithin F) kX6_isWithin mX6_59 dX6_isOfKind_18 (by decide) rfl rfl (Nat.le_of_ble_eq_true rfl) rfl ⟨Nat.le_refl _, Nat.le_refl _⟩ ?_
  refine ax_if_eq (pc := 21) (tgt := 36) C dX6_isOfKind_21 (by decide) (fun z => False.elim (ax_beq z (by decide))) (fun _ => ?_)
  refine ax_gets (pc := 24) C hS0 st_254 dX6_isOfKind_24 ?_
  refine ax_iload_2 (pc := 27) C dX6_isOfKind_27 ?_
  refine ax_sta (pc := 28) C hS0 (w := 4) 5 (by decide) rfl rfl dX6_isOfKind_28 ?_
  refine ax_istore_2 (pc := 29) C dX6_isOfKind_29 rfl ?_
  refine ax_iinc_3 (pc := 30) C dX6_isOfKind_30 (1) (by decide) rfl ?_
  refine ax_goto (pc := 33) (tgt := 4) C dX6_isOfKind_33 (by decide) ?_
  refine ax_iload_3 (pc := 4) C dX6_isOfKind_4 ?_
  refine ax_bipush (pc := 5) (v := 6) C dX6_isOfKind_5 (by decide) ?_
  refine ax_icmp_ge (pc := 7) (tgt := 36) C dX6_isOfKind_7 (by decide) (fun z => False.elim (absurd z (by decide))) (fun _ => ?_)
  refine ax_iload_2 (pc := 10) C dX6_isOfKind_10 ?_
  refine ax_iload_1 (pc := 11) C dX6_isOfKind_11 ?_
  refine ax_icmp_eq (pc := 12) (tgt := 36) C dX6_isOfKind_12 (by decide) (fun _ => ?_) (fun z => False.elim (absurd z (by decide)))
  refine ax_iload_2 (pc := 36) C dX6_isOfKind_36 ?_
  refine ax_iload_1 (pc := 37) C dX6_isOfKind_37 ?_
  refine ax_icmp_ne (pc := 38) (tgt := 45) C dX6_isOfKind_38 (by decide) (fun z => False.elim (absurd z (by decide))) (fun _ => ?_)
  refine ax_iconst (pc := 41) (v := 1) C dX6_isOfKind_41 (by decide) ?_
  refine ax_goto (pc := 42) (tgt := 46) C dX6_isOfKind_42 (by decide) ?_
  exact ax_zr (pc := 46) C rfl rfl dX6_isOfKind_46 rfl rfl

set_option maxRecDepth 20000 in
set_option maxHeartbeats 4000000 in
theorem w_X6_isOfKind_5_5 {Y : ax_Y} {ad : Nat → Nat} (F : ax_F Y) {l : Launch} {σ : ax_Z} : ax_m Y ad l iX6_isOfKind 1 σ [.int 5, .int 5] (some (.int 1)) σ := by
  obtain ⟨a0, hS0⟩ := ax_St_0 F
  refine ax_m.of F kX6_isOfKind.1 [some (.int (5)), some (.int (5)), none, none] rfl (Nat.le_of_ble_eq_true rfl) (fun x C => ?_)
  refine ax_iload_0 (pc := 0) C dX6_isOfKind_0 ?_
  refine ax_istore_2 (pc := 1) C dX6_isOfKind_1 rfl ?_
  refine ax_iconst (pc := 2) (v := 0) C dX6_isOfKind_2 (by decide) ?_
  refine ax_istore_3 (pc := 3) C dX6_isOfKind_3 rfl ?_
  refine ax_iload_3 (pc := 4) C dX6_isOfKind_4 ?_
  refine ax_bipush (pc := 5) (v := 6) C dX6_isOfKind_5 (by decide) ?_
  refine ax_icmp_ge (pc := 7) (tgt := 36) C dX6_isOfKind_7 (by decide) (fun z => False.elim (absurd z (by decide))) (fun _ => ?_)
  refine ax_iload_2 (pc := 10) C dX6_isOfKind_10 ?_
  refine ax_iload_1 (pc := 11) C dX6_isOfKind_11 ?_
  refine ax_icmp_eq (pc := 12) (tgt := 36) C dX6_isOfKind_12 (by decide) (fun _ => ?_) (fun z => False.elim (absurd z (by decide)))
  refine ax_iload_2 (pc := 36) C dX6_isOfKind_36 ?_
  refine ax_iload_1 (pc := 37) C dX6_isOfKind_37 ?_
  refine ax_icmp_ne (pc := 38) (tgt := 45) C dX6_isOfKind_38 (by decide) (fun z => False.elim (absurd z (by decide))) (fun _ => ?_)
  refine ax_iconst (pc := 41) (v := 1) C dX6_isOfKind_41 (by decide) ?_
  refine ax_goto (pc := 42) (tgt := 46) C dX6_isOfKind_42 (by decide) ?_
  exact ax_zr (pc := 46) C rfl rfl dX6_isOfKind_46 rfl rfl

theorem w_X6_isOfKind {Y : ax_Y} {ad : Nat → Nat} (F : ax_F Y) {l : Launch} {σ : ax_Z} {k w : Nat} (k1 : 1 ≤ k) (k5 : k ≤ 5) (w5 : w ≤ 5) : ax_m Y ad l iX6_isOfKind 1 σ [.int (nI k), .int (nI w)] (some (.int (ax_b (kd_is k w = true)))) σ := by
  rcases (show k = 1 ∨ k = 2 ∨ k = 3 ∨ k = 4 ∨ k = 5 by omega) with rfl | rfl | rfl | rfl | rfl <;> rcases (show w = 0 ∨ w = 1 ∨ w = 2 ∨ w = 3 ∨ w = 4 ∨ w = 5 by omega) with rfl | rfl | rfl | rfl | rfl | rfl
  · exact w_X6_isOfKind_1_0 F
  · exact w_X6_isOfKind_1_1 F
  · exact w_X6_isOfKind_1_2 F
  · exact w_X6_isOfKind_1_3 F
  · exact w_X6_isOfKind_1_4 F
  · exact w_X6_isOfKind_1_5 F
  · exact w_X6_isOfKind_2_0 F
  · exact w_X6_isOfKind_2_1 F
  · exact w_X6_isOfKind_2_2 F
  · exact w_X6_isOfKind_2_3 F
  · exact w_X6_isOfKind_2_4 F
  · exact w_X6_isOfKind_2_5 F
  · exact w_X6_isOfKind_3_0 F
  · exact w_X6_isOfKind_3_1 F
  · exact w_X6_isOfKind_3_2 F
  · exact w_X6_isOfKind_3_3 F
  · exact w_X6_isOfKind_3_4 F
  · exact w_X6_isOfKind_3_5 F
  · exact w_X6_isOfKind_4_0 F
  · exact w_X6_isOfKind_4_1 F
  · exact w_X6_isOfKind_4_2 F
  · exact w_X6_isOfKind_4_3 F
  · exact w_X6_isOfKind_4_4 F
  · exact w_X6_isOfKind_4_5 F
  · exact w_X6_isOfKind_5_0 F
  · exact w_X6_isOfKind_5_1 F
  · exact w_X6_isOfKind_5_2 F
  · exact w_X6_isOfKind_5_3 F
  · exact w_X6_isOfKind_5_4 F
  · exact w_X6_isOfKind_5_5 F
set_option maxRecDepth 20000 in
set_option maxHeartbeats 4000000 in
theorem w_X1_answer_10 {Y : ax_Y} {ad : Nat → Nat} (F : ax_F Y) {l : Launch} {σ : ax_Z} {c t d : Nat} (hc : c < 6) (ht : σ 39 1 = nI t) (h16 : t + 1 ≤ 16) (hd : d + 0 ≤ 16) : ax_m Y ad l iX1_answer 0 σ [.ref (ad 39), .ref (ad 14), .int (nI c), .int 10, .int (nI d)] (some (.int (σ 18 c))) (as_c σ t [10]) := by
  refine ax_m.of F kX1_answer.1 [some (.ref (ad 39)), some (.ref (ad 14)), some (.int (nI c)), some (.int (10)), some (.int (nI d)), none, none] rfl (Nat.le_of_ble_eq_true rfl) (fun x C => ?_)
  refine ax_iload_4 (pc := 0) C dX1_answer_0 ?_
  refine ax_bipush (pc := 2) (v := 16) C dX1_answer_2 (by decide) ?_
  refine ax_icmp_le (pc := 4) (tgt := 9) C dX1_answer_4 (by decide) (fun _ => ?_) (fun z => False.elim (z (nI_le (a := d) (b := 16) (by omega) (by decide))))
  refine ax_aload_0 (pc := 9) C dX1_answer_9 ?_
  refine ax_getI (pc := 10) C fX1_15 dX1_answer_10 rfl rfl ?_
  refine ax_val C ht ?_
  refine ax_bipush (pc := 13) (v := 16) C dX1_answer_13 (by decide) ?_
  refine ax_icmp_ge (pc := 15) (tgt := 38) C dX1_answer_15 (by decide) (fun z => False.elim (nI_ge (a := t) (b := 16) (by omega) (by decide) z)) (fun _ => ?_)
  refine ax_aload_0 (pc := 18) C dX1_answer_18 ?_
  refine ax_getR (pc := 19) C fX1_9 dX1_answer_19 rfl rfl ?_
  refine ax_aload_0 (pc := 22) C dX1_answer_22 ?_
  refine ax_getI (pc := 23) C fX1_15 dX1_answer_23 rfl rfl ?_
  refine ax_val C ht ?_
  refine ax_iload_3 (pc := 26) C dX1_answer_26 ?_
  refine ax_isn (pc := 27) C dX1_answer_27 rfl (by omega) (by decide) ?_
  refine ax_aload_0 (pc := 28) C dX1_answer_28 ?_
  refine ax_dup (pc := 29) C dX1_answer_29 rfl ?_
  refine ax_getI (pc := 30) C fX1_15 dX1_answer_30 rfl rfl ?_
  refine ax_val C (show _ = nI t by rw [up_ne (by decide)]; exact ht) ?_
  refine ax_iconst (pc := 33) (v := 1) C dX1_answer_33 (by decide) ?_
  refine ax_iadd (pc := 34) C dX1_answer_34 ?_
  refine ax_val C (nI_1 t) ?_
  refine ax_putI (pc := 35) C fX1_15 dX1_answer_35 rfl rfl rfl rfl ?_
  refine ax_iload_4 (pc := 38) C dX1_answer_38 ?_
  refine ax_iconst (pc := 40) (v := 1) C dX1_answer_40 (by decide) ?_
  refine ax_iadd (pc := 41) C dX1_answer_41 ?_
  refine ax_val C (nI_1 d) ?_
  refine ax_istore_5 (pc := 42) C dX1_answer_42 rfl ?_
  refine ax_aload_1 (pc := 44) C dX1_answer_44 ?_
  refine ax_getR (pc := 45) C fX1_19 dX1_answer_45 rfl rfl ?_
  refine ax_iload_2 (pc := 48) C dX1_answer_48 ?_
  refine ax_ian (pc := 49) C dX1_answer_49 rfl (by omega) (by omega) ?_
  refine ax_istore_6 (pc := 50) C dX1_answer_50 rfl ?_
  refine ax_iload_3 (pc := 52) C dX1_answer_52 ?_
  · refine ax_tabIn (pc := 53) (off := 75) (tgt := 128) C dX1_answer_53 (by decide) (by decide) (by decide) (by decide) ?_
    refine ax_aload_1 (pc := 128) C dX1_answer_128 ?_
    refine ax_getR (pc := 129) C fX1_32 dX1_answer_129 rfl rfl ?_
    refine ax_iload_2 (pc := 132) C dX1_answer_132 ?_
    refine ax_ian (pc := 133) C dX1_answer_133 rfl (by omega) (by omega) ?_
    exact ax_ir (pc := 134) C rfl dX1_answer_134 (by first | with_reducible rfl | (simp only [as_17, as_18]; done) | (simp only [as_17, as_18]; with_reducible rfl) | (show _ = _; simp only [show ∀ (υ : ax_Z) (t : Nat) (b : Int32), ax_up (ax_up υ 40 t b) 39 1 (nI (t + 1)) = as_p υ t b from fun _ _ _ => rfl, as_17, as_18]; done) | rfl) rfl

set_option maxRecDepth 20000 in
set_option maxHeartbeats 4000000 in
theorem w_X1_answer_20 {Y : ax_Y} {ad : Nat → Nat} (F : ax_F Y) {l : Launch} {σ : ax_Z} {c t d : Nat} (hc : c < 6) (ht : σ 39 1 = nI t) (h16 : t + 1 ≤ 16) (hd : d + 0 ≤ 16) : ax_m Y ad l iX1_answer 0 σ [.ref (ad 39), .ref (ad 14), .int (nI c), .int 20, .int (nI d)] (some (.int (nI c))) (as_c σ t [20]) := by
  refine ax_m.of F kX1_answer.1 [some (.ref (ad 39)), some (.ref (ad 14)), some (.int (nI c)), some (.int (20)), some (.int (nI d)), none, none] rfl (Nat.le_of_ble_eq_true rfl) (fun x C => ?_)
  refine ax_iload_4 (pc := 0) C dX1_answer_0 ?_
  refine ax_bipush (pc := 2) (v := 16) C dX1_answer_2 (by decide) ?_
  refine ax_icmp_le (pc := 4) (tgt := 9) C dX1_answer_4 (by decide) (fun _ => ?_) (fun z => False.elim (z (nI_le (a := d) (b := 16) (by omega) (by decide))))
  refine ax_aload_0 (pc := 9) C dX1_answer_9 ?_
  refine ax_getI (pc := 10) C fX1_15 dX1_answer_10 rfl rfl ?_
  refine ax_val C ht ?_
  refine ax_bipush (pc := 13) (v := 16) C dX1_answer_13 (by decide) ?_
  refine ax_icmp_ge (pc := 15) (tgt := 38) C dX1_answer_15 (by decide) (fun z => False.elim (nI_ge (a := t) (b := 16) (by omega) (by decide) z)) (fun _ => ?_)
  refine ax_aload_0 (pc := 18) C dX1_answer_18 ?_
  refine ax_getR (pc := 19) C fX1_9 dX1_answer_19 rfl rfl ?_
  refine ax_aload_0 (pc := 22) C dX1_answer_22 ?_
  refine ax_getI (pc := 23) C fX1_15 dX1_answer_23 rfl rfl ?_
  refine ax_val C ht ?_
  refine ax_iload_3 (pc := 26) C dX1_answer_26 ?_
  refine ax_isn (pc := 27) C dX1_answer_27 rfl (by omega) (by decide) ?_
  refine ax_aload_0 (pc := 28) C dX1_answer_28 ?_
  refine ax_dup (pc := 29) C dX1_answer_29 rfl ?_
  refine ax_getI (pc := 30) C fX1_15 dX1_answer_30 rfl rfl ?_
  refine ax_val C (show _ = nI t by rw [up_ne (by decide)]; exact ht) ?_
  refine ax_iconst (pc := 33) (v := 1) C dX1_answer_33 (by decide) ?_
  refine ax_iadd (pc := 34) C dX1_answer_34 ?_
  refine ax_val C (nI_1 t) ?_
  refine ax_putI (pc := 35) C fX1_15 dX1_answer_35 rfl rfl rfl rfl ?_
  refine ax_iload_4 (pc := 38) C dX1_answer_38 ?_
  refine ax_iconst (pc := 40) (v := 1) C dX1_answer_40 (by decide) ?_
  refine ax_iadd (pc := 41) C dX1_answer_41 ?_
  refine ax_val C (nI_1 d) ?_
  refine ax_istore_5 (pc := 42) C dX1_answer_42 rfl ?_
  refine ax_aload_1 (pc := 44) C dX1_answer_44 ?_
  refine ax_getR (pc := 45) C fX1_19 dX1_answer_45 rfl rfl ?_
  refine ax_iload_2 (pc := 48) C dX1_answer_48 ?_
  refine ax_ian (pc := 49) C dX1_answer_49 rfl (by omega) (by omega) ?_
  refine ax_istore_6 (pc := 50) C dX1_answer_50 rfl ?_
  refine ax_iload_3 (pc := 52) C dX1_answer_52 ?_
  · refine ax_tabIn (pc := 53) (off := 150) (tgt := 203) C dX1_answer_53 (by decide) (by decide) (by decide) (by decide) ?_
    refine ax_iload_2 (pc := 203) C dX1_answer_203 ?_
    exact ax_ir (pc := 204) C rfl dX1_answer_204 (by first | with_reducible rfl | (simp only [as_17, as_18]; done) | (simp only [as_17, as_18]; with_reducible rfl) | (show _ = _; simp only [show ∀ (υ : ax_Z) (t : Nat) (b : Int32), ax_up (ax_up υ 40 t b) 39 1 (nI (t + 1)) = as_p υ t b from fun _ _ _ => rfl, as_17, as_18]; done) | rfl) rfl

set_option maxRecDepth 20000 in
set_option maxHeartbeats 4000000 in
theorem w_X1_answer_21 {Y : ax_Y} {ad : Nat → Nat} (F : ax_F Y) {l : Launch} {σ : ax_Z} {c t d : Nat} (hc : c < 6) (ht : σ 39 1 = nI t) (h16 : t + 2 ≤ 16) (hd : d + 1 ≤ 16) : ax_m Y ad l iX1_answer 1 σ [.ref (ad 39), .ref (ad 14), .int (nI c), .int 21, .int (nI d)] (some (.int (nI c + σ 17 c))) (as_c σ t [21, 20]) := by
  refine ax_m.of F kX1_answer.1 [some (.ref (ad 39)), some (.ref (ad 14)), some (.int (nI c)), some (.int (21)), some (.int (nI d)), none, none] rfl (Nat.le_of_ble_eq_true rfl) (fun x C => ?_)
  refine ax_iload_4 (pc := 0) C dX1_answer_0 ?_
  refine ax_bipush (pc := 2) (v := 16) C dX1_answer_2 (by decide) ?_
  refine ax_icmp_le (pc := 4) (tgt := 9) C dX1_answer_4 (by decide) (fun _ => ?_) (fun z => False.elim (z (nI_le (a := d) (b := 16) (by omega) (by decide))))
  refine ax_aload_0 (pc := 9) C dX1_answer_9 ?_
  refine ax_getI (pc := 10) C fX1_15 dX1_answer_10 rfl rfl ?_
  refine ax_val C ht ?_
  refine ax_bipush (pc := 13) (v := 16) C dX1_answer_13 (by decide) ?_
  refine ax_icmp_ge (pc := 15) (tgt := 38) C dX1_answer_15 (by decide) (fun z => False.elim (nI_ge (a := t) (b := 16) (by omega) (by decide) z)) (fun _ => ?_)
  refine ax_aload_0 (pc := 18) C dX1_answer_18 ?_
  refine ax_getR (pc := 19) C fX1_9 dX1_answer_19 rfl rfl ?_
  refine ax_aload_0 (pc := 22) C dX1_answer_22 ?_
  refine ax_getI (pc := 23) C fX1_15 dX1_answer_23 rfl rfl ?_
  refine ax_val C ht ?_
  refine ax_iload_3 (pc := 26) C dX1_answer_26 ?_
  refine ax_isn (pc := 27) C dX1_answer_27 rfl (by omega) (by decide) ?_
  refine ax_aload_0 (pc := 28) C dX1_answer_28 ?_
  refine ax_dup (pc := 29) C dX1_answer_29 rfl ?_
  refine ax_getI (pc := 30) C fX1_15 dX1_answer_30 rfl rfl ?_
  refine ax_val C (show _ = nI t by rw [up_ne (by decide)]; exact ht) ?_
  refine ax_iconst (pc := 33) (v := 1) C dX1_answer_33 (by decide) ?_
  refine ax_iadd (pc := 34) C dX1_answer_34 ?_
  refine ax_val C (nI_1 t) ?_
  refine ax_putI (pc := 35) C fX1_15 dX1_answer_35 rfl rfl rfl rfl ?_
  refine ax_iload_4 (pc := 38) C dX1_answer_38 ?_
  refine ax_iconst (pc := 40) (v := 1) C dX1_answer_40 (by decide) ?_
  refine ax_iadd (pc := 41) C dX1_answer_41 ?_
  refine ax_val C (nI_1 d) ?_
  refine ax_istore_5 (pc := 42) C dX1_answer_42 rfl ?_
  refine ax_aload_1 (pc := 44) C dX1_answer_44 ?_
  refine ax_getR (pc := 45) C fX1_19 dX1_answer_45 rfl rfl ?_
  refine ax_iload_2 (pc := 48) C dX1_answer_48 ?_
  refine ax_ian (pc := 49) C dX1_answer_49 rfl (by omega) (by omega) ?_
  refine ax_istore_6 (pc := 50) C dX1_answer_50 rfl ?_
  refine ax_iload_3 (pc := 52) C dX1_answer_52 ?_
  · refine ax_tabIn (pc := 53) (off := 152) (tgt := 205) C dX1_answer_53 (by decide) (by decide) (by decide) (by decide) ?_
    refine ax_aload_0 (pc := 205) C dX1_answer_205 ?_
    refine ax_aload_1 (pc := 206) C dX1_answer_206 ?_
    refine ax_iload_2 (pc := 207) C dX1_answer_207 ?_
    refine ax_bipush (pc := 208) (v := 20) C dX1_answer_208 (by decide) ?_
    refine ax_iload_5 (pc := 210) C dX1_answer_210 ?_
    refine ax_callVi (pc := 212) C (w_X1_answer_20 F (t := t + 1) hc as_l (by omega) (by omega)) kX1_answer mX1_28 dX1_answer_212 (by decide) rfl rfl rfl rfl rfl (Nat.le_of_ble_eq_true rfl) rfl ⟨Nat.le_refl _, Nat.le_refl _⟩ ?_
    refine ax_aload_1 (pc := 215) C dX1_answer_215 ?_
    refine ax_getR (pc := 216) C fX1_38 dX1_answer_216 rfl rfl ?_
    refine ax_iload_2 (pc := 219) C dX1_answer_219 ?_
    refine ax_ian (pc := 220) C dX1_answer_220 rfl (by omega) (by omega) ?_
    refine ax_iadd (pc := 221) C dX1_answer_221 ?_
    exact ax_ir (pc := 222) C rfl dX1_answer_222 (by first | with_reducible rfl | (simp only [as_17, as_18]; done) | (simp only [as_17, as_18]; with_reducible rfl) | (show _ = _; simp only [show ∀ (υ : ax_Z) (t : Nat) (b : Int32), ax_up (ax_up υ 40 t b) 39 1 (nI (t + 1)) = as_p υ t b from fun _ _ _ => rfl, as_17, as_18]; done) | rfl) rfl

set_option maxRecDepth 20000 in
set_option maxHeartbeats 4000000 in
theorem w_X1_answer_13 {Y : ax_Y} {ad : Nat → Nat} (F : ax_F Y) {l : Launch} {σ : ax_Z} {c t d : Nat} (hc : c < 6) (ht : σ 39 1 = nI t) (h16 : t + 2 ≤ 16) (hd : d + 1 ≤ 16) : ax_m Y ad l iX1_answer 1 σ [.ref (ad 39), .ref (ad 14), .int (nI c), .int 13, .int (nI d)] (some (.int (σ 18 c - 100))) (as_c σ t [13, 10]) := by
  refine ax_m.of F kX1_answer.1 [some (.ref (ad 39)), some (.ref (ad 14)), some (.int (nI c)), some (.int (13)), some (.int (nI d)), none, none] rfl (Nat.le_of_ble_eq_true rfl) (fun x C => ?_)
  refine ax_iload_4 (pc := 0) C dX1_answer_0 ?_
  refine ax_bipush (pc := 2) (v := 16) C dX1_answer_2 (by decide) ?_
  refine ax_icmp_le (pc := 4) (tgt := 9) C dX1_answer_4 (by decide) (fun _ => ?_) (fun z => False.elim (z (nI_le (a := d) (b := 16) (by omega) (by decide))))
  refine ax_aload_0 (pc := 9) C dX1_answer_9 ?_
  refine ax_getI (pc := 10) C fX1_15 dX1_answer_10 rfl rfl ?_
  refine ax_val C ht ?_
  refine ax_bipush (pc := 13) (v := 16) C dX1_answer_13 (by decide) ?_
  refine ax_icmp_ge (pc := 15) (tgt := 38) C dX1_answer_15 (by decide) (fun z => False.elim (nI_ge (a := t) (b := 16) (by omega) (by decide) z)) (fun _ => ?_)
  refine ax_aload_0 (pc := 18) C dX1_answer_18 ?_
  refine ax_getR (pc := 19) C fX1_9 dX1_answer_19 rfl rfl ?_
  refine ax_aload_0 (pc := 22) C dX1_answer_22 ?_
  refine ax_getI (pc := 23) C fX1_15 dX1_answer_23 rfl rfl ?_
  refine ax_val C ht ?_
  refine ax_iload_3 (pc := 26) C dX1_answer_26 ?_
  refine ax_isn (pc := 27) C dX1_answer_27 rfl (by omega) (by decide) ?_
  refine ax_aload_0 (pc := 28) C dX1_answer_28 ?_
  refine ax_dup (pc := 29) C dX1_answer_29 rfl ?_
  refine ax_getI (pc := 30) C fX1_15 dX1_answer_30 rfl rfl ?_
  refine ax_val C (show _ = nI t by rw [up_ne (by decide)]; exact ht) ?_
  refine ax_iconst (pc := 33) (v := 1) C dX1_answer_33 (by decide) ?_
  refine ax_iadd (pc := 34) C dX1_answer_34 ?_
  refine ax_val C (nI_1 t) ?_
  refine ax_putI (pc := 35) C fX1_15 dX1_answer_35 rfl rfl rfl rfl ?_
  refine ax_iload_4 (pc := 38) C dX1_answer_38 ?_
  refine ax_iconst (pc := 40) (v := 1) C dX1_answer_40 (by decide) ?_
  refine ax_iadd (pc := 41) C dX1_answer_41 ?_
  refine ax_val C (nI_1 d) ?_
  refine ax_istore_5 (pc := 42) C dX1_answer_42 rfl ?_
  refine ax_aload_1 (pc := 44) C dX1_answer_44 ?_
  refine ax_getR (pc := 45) C fX1_19 dX1_answer_45 rfl rfl ?_
  refine ax_iload_2 (pc := 48) C dX1_answer_48 ?_
  refine ax_ian (pc := 49) C dX1_answer_49 rfl (by omega) (by omega) ?_
  refine ax_istore_6 (pc := 50) C dX1_answer_50 rfl ?_
  refine ax_iload_3 (pc := 52) C dX1_answer_52 ?_
  · refine ax_tabIn (pc := 53) (off := 123) (tgt := 176) C dX1_answer_53 (by decide) (by decide) (by decide) (by decide) ?_
    refine ax_aload_0 (pc := 176) C dX1_answer_176 ?_
    refine ax_aload_1 (pc := 177) C dX1_answer_177 ?_
    refine ax_iload_2 (pc := 178) C dX1_answer_178 ?_
    refine ax_bipush (pc := 179) (v := 10) C dX1_answer_179 (by decide) ?_
    refine ax_iload_5 (pc := 181) C dX1_answer_181 ?_
    refine ax_callVi (pc := 183) C (w_X1_answer_10 F (t := t + 1) hc as_l (by omega) (by omega)) kX1_answer mX1_28 dX1_answer_183 (by decide) rfl rfl rfl rfl rfl (Nat.le_of_ble_eq_true rfl) rfl ⟨Nat.le_refl _, Nat.le_refl _⟩ ?_
    refine ax_bipush (pc := 186) (v := 100) C dX1_answer_186 (by decide) ?_
    refine ax_isub (pc := 188) C dX1_answer_188 ?_
    exact ax_ir (pc := 189) C rfl dX1_answer_189 (by first | with_reducible rfl | (simp only [as_17, as_18]; done) | (simp only [as_17, as_18]; with_reducible rfl) | (show _ = _; simp only [show ∀ (υ : ax_Z) (t : Nat) (b : Int32), ax_up (ax_up υ 40 t b) 39 1 (nI (t + 1)) = as_p υ t b from fun _ _ _ => rfl, as_17, as_18]; done) | rfl) rfl

set_option maxRecDepth 20000 in
set_option maxHeartbeats 4000000 in
theorem w_X1_answer_14 {Y : ax_Y} {ad : Nat → Nat} (F : ax_F Y) {l : Launch} {σ : ax_Z} {c t d : Nat} (hc : c < 6) (ht : σ 39 1 = nI t) (h16 : t + 3 ≤ 16) (hd : d + 2 ≤ 16) : ax_m Y ad l iX1_answer 2 σ [.ref (ad 39), .ref (ad 14), .int (nI c), .int 14, .int (nI d)] (some (.int (2 * (σ 18 c - 100)))) (as_c σ t [14, 13, 10]) := by
  refine ax_m.of F kX1_answer.1 [some (.ref (ad 39)), some (.ref (ad 14)), some (.int (nI c)), some (.int (14)), some (.int (nI d)), none, none] rfl (Nat.le_of_ble_eq_true rfl) (fun x C => ?_)
  refine ax_iload_4 (pc := 0) C dX1_answer_0 ?_
  refine ax_bipush (pc := 2) (v := 16) C dX1_answer_2 (by decide) ?_
  refine ax_icmp_le (pc := 4) (tgt := 9) C dX1_answer_4 (by decide) (fun _ => ?_) (fun z => False.elim (z (nI_le (a := d) (b := 16) (by omega) (by decide))))
  refine ax_aload_0 (pc := 9) C dX1_answer_9 ?_
  refine ax_getI (pc := 10) C fX1_15 dX1_answer_10 rfl rfl ?_
  refine ax_val C ht ?_
  refine ax_bipush (pc := 13) (v := 16) C dX1_answer_13 (by decide) ?_
  refine ax_icmp_ge (pc := 15) (tgt := 38) C dX1_answer_15 (by decide) (fun z => False.elim (nI_ge (a := t) (b := 16) (by omega) (by decide) z)) (fun _ => ?_)
  refine ax_aload_0 (pc := 18) C dX1_answer_18 ?_
  refine ax_getR (pc := 19) C fX1_9 dX1_answer_19 rfl rfl ?_
  refine ax_aload_0 (pc := 22) C dX1_answer_22 ?_
  refine ax_getI (pc := 23) C fX1_15 dX1_answer_23 rfl rfl ?_
  refine ax_val C ht ?_
  refine ax_iload_3 (pc := 26) C dX1_answer_26 ?_
  refine ax_isn (pc := 27) C dX1_answer_27 rfl (by omega) (by decide) ?_
  refine ax_aload_0 (pc := 28) C dX1_answer_28 ?_
  refine ax_dup (pc := 29) C dX1_answer_29 rfl ?_
  refine ax_getI (pc := 30) C fX1_15 dX1_answer_30 rfl rfl ?_
  refine ax_val C (show _ = nI t by rw [up_ne (by decide)]; exact ht) ?_
  refine ax_iconst (pc := 33) (v := 1) C dX1_answer_33 (by decide) ?_
  refine ax_iadd (pc := 34) C dX1_answer_34 ?_
  refine ax_val C (nI_1 t) ?_
  refine ax_putI (pc := 35) C fX1_15 dX1_answer_35 rfl rfl rfl rfl ?_
  refine ax_iload_4 (pc := 38) C dX1_answer_38 ?_
  refine ax_iconst (pc := 40) (v := 1) C dX1_answer_40 (by decide) ?_
  refine ax_iadd (pc := 41) C dX1_answer_41 ?_
  refine ax_val C (nI_1 d) ?_
  refine ax_istore_5 (pc := 42) C dX1_answer_42 rfl ?_
  refine ax_aload_1 (pc := 44) C dX1_answer_44 ?_
  refine ax_getR (pc := 45) C fX1_19 dX1_answer_45 rfl rfl ?_
  refine ax_iload_2 (pc := 48) C dX1_answer_48 ?_
  refine ax_ian (pc := 49) C dX1_answer_49 rfl (by omega) (by omega) ?_
  refine ax_istore_6 (pc := 50) C dX1_answer_50 rfl ?_
  refine ax_iload_3 (pc := 52) C dX1_answer_52 ?_
  · refine ax_tabIn (pc := 53) (off := 137) (tgt := 190) C dX1_answer_53 (by decide) (by decide) (by decide) (by decide) ?_
    refine ax_iconst (pc := 190) (v := 2) C dX1_answer_190 (by decide) ?_
    refine ax_aload_0 (pc := 191) C dX1_answer_191 ?_
    refine ax_aload_1 (pc := 192) C dX1_answer_192 ?_
    refine ax_iload_2 (pc := 193) C dX1_answer_193 ?_
    refine ax_bipush (pc := 194) (v := 13) C dX1_answer_194 (by decide) ?_
    refine ax_iload_5 (pc := 196) C dX1_answer_196 ?_
    refine ax_callVi (pc := 198) C (w_X1_answer_13 F (t := t + 1) hc as_l (by omega) (by omega)) kX1_answer mX1_28 dX1_answer_198 (by decide) rfl rfl rfl rfl rfl (Nat.le_of_ble_eq_true rfl) rfl ⟨Nat.le_refl _, Nat.le_refl _⟩ ?_
    refine ax_imul (pc := 201) C dX1_answer_201 ?_
    exact ax_ir (pc := 202) C rfl dX1_answer_202 (by first | with_reducible rfl | (simp only [as_17, as_18]; done) | (simp only [as_17, as_18]; with_reducible rfl) | (show _ = _; simp only [show ∀ (υ : ax_Z) (t : Nat) (b : Int32), ax_up (ax_up υ 40 t b) 39 1 (nI (t + 1)) = as_p υ t b from fun _ _ _ => rfl, as_17, as_18]; done) | rfl) rfl

set_option maxRecDepth 20000 in
set_option maxHeartbeats 4000000 in
theorem w_X1_answer_22 {Y : ax_Y} {ad : Nat → Nat} (F : ax_F Y) {l : Launch} {σ : ax_Z} {c t d : Nat} (hc : c < 6) (ht : σ 39 1 = nI t) (h16 : t + 3 ≤ 16) (hd : d + 2 ≤ 16) : ax_m Y ad l iX1_answer 2 σ [.ref (ad 39), .ref (ad 14), .int (nI c), .int 22, .int (nI d)] (some (.int (nI c + σ 17 c - 1000))) (as_c σ t [22, 21, 20]) := by
  refine ax_m.of F kX1_answer.1 [some (.ref (ad 39)), some (.ref (ad 14)), some (.int (nI c)), some (.int (22)), some (.int (nI d)), none, none] rfl (Nat.le_of_ble_eq_true rfl) (fun x C => ?_)
  refine ax_iload_4 (pc := 0) C dX1_answer_0 ?_
  refine ax_bipush (pc := 2) (v := 16) C dX1_answer_2 (by decide) ?_
  refine ax_icmp_le (pc := 4) (tgt := 9) C dX1_answer_4 (by decide) (fun _ => ?_) (fun z => False.elim (z (nI_le (a := d) (b := 16) (by omega) (by decide))))
  refine ax_aload_0 (pc := 9) C dX1_answer_9 ?_
  refine ax_getI (pc := 10) C fX1_15 dX1_answer_10 rfl rfl ?_
  refine ax_val C ht ?_
  refine ax_bipush (pc := 13) (v := 16) C dX1_answer_13 (by decide) ?_
  refine ax_icmp_ge (pc := 15) (tgt := 38) C dX1_answer_15 (by decide) (fun z => False.elim (nI_ge (a := t) (b := 16) (by omega) (by decide) z)) (fun _ => ?_)
  refine ax_aload_0 (pc := 18) C dX1_answer_18 ?_
  refine ax_getR (pc := 19) C fX1_9 dX1_answer_19 rfl rfl ?_
  refine ax_aload_0 (pc := 22) C dX1_answer_22 ?_
  refine ax_getI (pc := 23) C fX1_15 dX1_answer_23 rfl rfl ?_
  refine ax_val C ht ?_
  refine ax_iload_3 (pc := 26) C dX1_answer_26 ?_
  refine ax_isn (pc := 27) C dX1_answer_27 rfl (by omega) (by decide) ?_
  refine ax_aload_0 (pc := 28) C dX1_answer_28 ?_
  refine ax_dup (pc := 29) C dX1_answer_29 rfl ?_
  refine ax_getI (pc := 30) C fX1_15 dX1_answer_30 rfl rfl ?_
  refine ax_val C (show _ = nI t by rw [up_ne (by decide)]; exact ht) ?_
  refine ax_iconst (pc := 33) (v := 1) C dX1_answer_33 (by decide) ?_
  refine ax_iadd (pc := 34) C dX1_answer_34 ?_
  refine ax_val C (nI_1 t) ?_
  refine ax_putI (pc := 35) C fX1_15 dX1_answer_35 rfl rfl rfl rfl ?_
  refine ax_iload_4 (pc := 38) C dX1_answer_38 ?_
  refine ax_iconst (pc := 40) (v := 1) C dX1_answer_40 (by decide) ?_
  refine ax_iadd (pc := 41) C dX1_answer_41 ?_
  refine ax_val C (nI_1 d) ?_
  refine ax_istore_5 (pc := 42) C dX1_answer_42 rfl ?_
  refine ax_aload_1 (pc := 44) C dX1_answer_44 ?_
  refine ax_getR (pc := 45) C fX1_19 dX1_answer_45 rfl rfl ?_
  refine ax_iload_2 (pc := 48) C dX1_answer_48 ?_
  refine ax_ian (pc := 49) C dX1_answer_49 rfl (by omega) (by omega) ?_
  refine ax_istore_6 (pc := 50) C dX1_answer_50 rfl ?_
  refine ax_iload_3 (pc := 52) C dX1_answer_52 ?_
  · refine ax_tabIn (pc := 53) (off := 170) (tgt := 223) C dX1_answer_53 (by decide) (by decide) (by decide) (by decide) ?_
    refine ax_aload_0 (pc := 223) C dX1_answer_223 ?_
    refine ax_aload_1 (pc := 224) C dX1_answer_224 ?_
    refine ax_iload_2 (pc := 225) C dX1_answer_225 ?_
    refine ax_bipush (pc := 226) (v := 21) C dX1_answer_226 (by decide) ?_
    refine ax_iload_5 (pc := 228) C dX1_answer_228 ?_
    refine ax_callVi (pc := 230) C (w_X1_answer_21 F (t := t + 1) hc as_l (by omega) (by omega)) kX1_answer mX1_28 dX1_answer_230 (by decide) rfl rfl rfl rfl rfl (Nat.le_of_ble_eq_true rfl) rfl ⟨Nat.le_refl _, Nat.le_refl _⟩ ?_
    refine ax_sipush (pc := 233) (v := 1000) C dX1_answer_233 (by decide) ?_
    refine ax_isub (pc := 236) C dX1_answer_236 ?_
    exact ax_ir (pc := 237) C rfl dX1_answer_237 (by first | with_reducible rfl | (simp only [as_17, as_18]; done) | (simp only [as_17, as_18]; with_reducible rfl) | (show _ = _; simp only [show ∀ (υ : ax_Z) (t : Nat) (b : Int32), ax_up (ax_up υ 40 t b) 39 1 (nI (t + 1)) = as_p υ t b from fun _ _ _ => rfl, as_17, as_18]; done) | rfl) rfl

set_option maxRecDepth 20000 in
set_option maxHeartbeats 4000000 in
theorem w_X1_answer_24 {Y : ax_Y} {ad : Nat → Nat} (F : ax_F Y) {l : Launch} {σ : ax_Z} {c t d : Nat} (hc : c < 6) (ht : σ 39 1 = nI t) (h16 : t + 3 ≤ 16) (hd : d + 2 ≤ 16) : ax_m Y ad l iX1_answer 2 σ [.ref (ad 39), .ref (ad 14), .int (nI c), .int 24, .int (nI d)] (some (.int (2 * (nI c + σ 17 c)))) (as_c σ t [24, 21, 20]) := by
  refine ax_m.of F kX1_answer.1 [some (.ref (ad 39)), some (.ref (ad 14)), some (.int (nI c)), some (.int (24)), some (.int (nI d)), none, none] rfl (Nat.le_of_ble_eq_true rfl) (fun x C => ?_)
  refine ax_iload_4 (pc := 0) C dX1_answer_0 ?_
  refine ax_bipush (pc := 2) (v := 16) C dX1_answer_2 (by decide) ?_
  refine ax_icmp_le (pc := 4) (tgt := 9) C dX1_answer_4 (by decide) (fun _ => ?_) (fun z => False.elim (z (nI_le (a := d) (b := 16) (by omega) (by decide))))
  refine ax_aload_0 (pc := 9) C dX1_answer_9 ?_
  refine ax_getI (pc := 10) C fX1_15 dX1_answer_10 rfl rfl ?_
  refine ax_val C ht ?_
  refine ax_bipush (pc := 13) (v := 16) C dX1_answer_13 (by decide) ?_
  refine ax_icmp_ge (pc := 15) (tgt := 38) C dX1_answer_15 (by decide) (fun z => False.elim (nI_ge (a := t) (b := 16) (by omega) (by decide) z)) (fun _ => ?_)
  refine ax_aload_0 (pc := 18) C dX1_answer_18 ?_
  refine ax_getR (pc := 19) C fX1_9 dX1_answer_19 rfl rfl ?_
  refine ax_aload_0 (pc := 22) C dX1_answer_22 ?_
  refine ax_getI (pc := 23) C fX1_15 dX1_answer_23 rfl rfl ?_
  refine ax_val C ht ?_
  refine ax_iload_3 (pc := 26) C dX1_answer_26 ?_
  refine ax_isn (pc := 27) C dX1_answer_27 rfl (by omega) (by decide) ?_
  refine ax_aload_0 (pc := 28) C dX1_answer_28 ?_
  refine ax_dup (pc := 29) C dX1_answer_29 rfl ?_
  refine ax_getI (pc := 30) C fX1_15 dX1_answer_30 rfl rfl ?_
  refine ax_val C (show _ = nI t by rw [up_ne (by decide)]; exact ht) ?_
  refine ax_iconst (pc := 33) (v := 1) C dX1_answer_33 (by decide) ?_
  refine ax_iadd (pc := 34) C dX1_answer_34 ?_
  refine ax_val C (nI_1 t) ?_
  refine ax_putI (pc := 35) C fX1_15 dX1_answer_35 rfl rfl rfl rfl ?_
  refine ax_iload_4 (pc := 38) C dX1_answer_38 ?_
  refine ax_iconst (pc := 40) (v := 1) C dX1_answer_40 (by decide) ?_
  refine ax_iadd (pc := 41) C dX1_answer_41 ?_
  refine ax_val C (nI_1 d) ?_
  refine ax_istore_5 (pc := 42) C dX1_answer_42 rfl ?_
  refine ax_aload_1 (pc := 44) C dX1_answer_44 ?_
  refine ax_getR (pc := 45) C fX1_19 dX1_answer_45 rfl rfl ?_
  refine ax_iload_2 (pc := 48) C dX1_answer_48 ?_
  refine ax_ian (pc := 49) C dX1_answer_49 rfl (by omega) (by omega) ?_
  refine ax_istore_6 (pc := 50) C dX1_answer_50 rfl ?_
  refine ax_iload_3 (pc := 52) C dX1_answer_52 ?_
  · refine ax_tabIn (pc := 53) (off := 213) (tgt := 266) C dX1_answer_53 (by decide) (by decide) (by decide) (by decide) ?_
    refine ax_iconst (pc := 266) (v := 2) C dX1_answer_266 (by decide) ?_
    refine ax_aload_0 (pc := 267) C dX1_answer_267 ?_
    refine ax_aload_1 (pc := 268) C dX1_answer_268 ?_
    refine ax_iload_2 (pc := 269) C dX1_answer_269 ?_
    refine ax_bipush (pc := 270) (v := 21) C dX1_answer_270 (by decide) ?_
    refine ax_iload_5 (pc := 272) C dX1_answer_272 ?_
    refine ax_callVi (pc := 274) C (w_X1_answer_21 F (t := t + 1) hc as_l (by omega) (by omega)) kX1_answer mX1_28 dX1_answer_274 (by decide) rfl rfl rfl rfl rfl (Nat.le_of_ble_eq_true rfl) rfl ⟨Nat.le_refl _, Nat.le_refl _⟩ ?_
    refine ax_imul (pc := 277) C dX1_answer_277 ?_
    exact ax_ir (pc := 278) C rfl dX1_answer_278 (by first | with_reducible rfl | (simp only [as_17, as_18]; done) | (simp only [as_17, as_18]; with_reducible rfl) | (show _ = _; simp only [show ∀ (υ : ax_Z) (t : Nat) (b : Int32), ax_up (ax_up υ 40 t b) 39 1 (nI (t + 1)) = as_p υ t b from fun _ _ _ => rfl, as_17, as_18]; done) | rfl) rfl

set_option maxRecDepth 20000 in
set_option maxHeartbeats 4000000 in
theorem w_X1_answer_23_4 {Y : ax_Y} {ad : Nat → Nat} (F : ax_F Y) {l : Launch} {σ : ax_Z} {c t d : Nat} (hc : c < 6) (ht : σ 39 1 = nI t) (h16 : t + 4 ≤ 16) (hd : d + 2 ≤ 16) (hk : σ 16 c = 4) : ax_m Y ad l iX1_answer 3 σ [.ref (ad 39), .ref (ad 14), .int (nI c), .int 23, .int (nI d)] (some (.int (nI c - (σ 18 c - 100)))) (as_c σ t [23, 20, 13, 10]) := by
  obtain ⟨a1, hS1⟩ := ax_St_1 F
  obtain ⟨a2, hS2⟩ := ax_St_2 F
  refine ax_m.of F kX1_answer.1 [some (.ref (ad 39)), some (.ref (ad 14)), some (.int (nI c)), some (.int (23)), some (.int (nI d)), none, none] rfl (Nat.le_of_ble_eq_true rfl) (fun x C => ?_)
  refine ax_iload_4 (pc := 0) C dX1_answer_0 ?_
  refine ax_bipush (pc := 2) (v := 16) C dX1_answer_2 (by decide) ?_
  refine ax_icmp_le (pc := 4) (tgt := 9) C dX1_answer_4 (by decide) (fun _ => ?_) (fun z => False.elim (z (nI_le (a := d) (b := 16) (by omega) (by decide))))
  refine ax_aload_0 (pc := 9) C dX1_answer_9 ?_
  refine ax_getI (pc := 10) C fX1_15 dX1_answer_10 rfl rfl ?_
  refine ax_val C ht ?_
  refine ax_bipush (pc := 13) (v := 16) C dX1_answer_13 (by decide) ?_
  refine ax_icmp_ge (pc := 15) (tgt := 38) C dX1_answer_15 (by decide) (fun z => False.elim (nI_ge (a := t) (b := 16) (by omega) (by decide) z)) (fun _ => ?_)
  refine ax_aload_0 (pc := 18) C dX1_answer_18 ?_
  refine ax_getR (pc := 19) C fX1_9 dX1_answer_19 rfl rfl ?_
  refine ax_aload_0 (pc := 22) C dX1_answer_22 ?_
  refine ax_getI (pc := 23) C fX1_15 dX1_answer_23 rfl rfl ?_
  refine ax_val C ht ?_
  refine ax_iload_3 (pc := 26) C dX1_answer_26 ?_
  refine ax_isn (pc := 27) C dX1_answer_27 rfl (by omega) (by decide) ?_
  refine ax_aload_0 (pc := 28) C dX1_answer_28 ?_
  refine ax_dup (pc := 29) C dX1_answer_29 rfl ?_
  refine ax_getI (pc := 30) C fX1_15 dX1_answer_30 rfl rfl ?_
  refine ax_val C (show _ = nI t by rw [up_ne (by decide)]; exact ht) ?_
  refine ax_iconst (pc := 33) (v := 1) C dX1_answer_33 (by decide) ?_
  refine ax_iadd (pc := 34) C dX1_answer_34 ?_
  refine ax_val C (nI_1 t) ?_
  refine ax_putI (pc := 35) C fX1_15 dX1_answer_35 rfl rfl rfl rfl ?_
  refine ax_iload_4 (pc := 38) C dX1_answer_38 ?_
  refine ax_iconst (pc := 40) (v := 1) C dX1_answer_40 (by decide) ?_
  refine ax_iadd (pc := 41) C dX1_answer_41 ?_
  refine ax_val C (nI_1 d) ?_
  refine ax_istore_5 (pc := 42) C dX1_answer_42 rfl ?_
  refine ax_aload_1 (pc := 44) C dX1_answer_44 ?_
  refine ax_getR (pc := 45) C fX1_19 dX1_answer_45 rfl rfl ?_
  refine ax_iload_2 (pc := 48) C dX1_answer_48 ?_
  refine ax_ian (pc := 49) C dX1_answer_49 rfl (by omega) (by omega) ?_
  refine ax_istore_6 (pc := 50) C dX1_answer_50 rfl ?_
  refine ax_iload_3 (pc := 52) C dX1_answer_52 ?_
  · refine ax_tabIn (pc := 53) (off := 185) (tgt := 238) C dX1_answer_53 (by decide) (by decide) (by decide) (by decide) ?_
    refine ax_aload_0 (pc := 238) C dX1_answer_238 ?_
    refine ax_aload_1 (pc := 239) C dX1_answer_239 ?_
    refine ax_iload_2 (pc := 240) C dX1_answer_240 ?_
    refine ax_bipush (pc := 241) (v := 20) C dX1_answer_241 (by decide) ?_
    refine ax_iload_5 (pc := 243) C dX1_answer_243 ?_
    refine ax_callVi (pc := 245) C (w_X1_answer_20 F (t := t + 1) hc as_l (by omega) (by omega)) kX1_answer mX1_28 dX1_answer_245 (by decide) rfl rfl rfl rfl rfl (Nat.le_of_ble_eq_true rfl) rfl ⟨Nat.le_refl _, Nat.le_refl _⟩ ?_
    refine ax_aload_0 (pc := 248) C dX1_answer_248 ?_
    refine ax_aload_1 (pc := 249) C dX1_answer_249 ?_
    refine ax_iload_2 (pc := 250) C dX1_answer_250 ?_
    refine ax_getsN (pc := 251) C hS1 sn_41 dX1_answer_251 ?_
    refine ax_iload_6 (pc := 254) C dX1_answer_254 ?_
    refine ax_val C (show _ = 4 by rw [show ax_up (ax_up σ 40 t 23) 39 1 (nI (t + 1)) = as_p σ t 23 from rfl, as_16]; exact hk) ?_
    refine ax_callNi (pc := 256) C (w_X6_bodyFor_1_4 F hS1) kX6_bodyFor mX1_24 dX1_answer_256 (by decide) rfl rfl (Nat.le_of_ble_eq_true rfl) rfl ⟨Nat.le_refl _, Nat.le_refl _⟩ ?_
    refine ax_iload_5 (pc := 259) C dX1_answer_259 ?_
    refine ax_callVi (pc := 261) C (w_X1_answer_13 F (t := t + 1 + 1) hc (as_l (σ := as_p σ t 23) (t := t + 1) (b := 20)) (by omega) (by omega)) kX1_answer mX1_28 dX1_answer_261 (by decide) rfl rfl rfl rfl rfl (Nat.le_of_ble_eq_true rfl) rfl ⟨Nat.le_refl _, Nat.le_refl _⟩ ?_
    refine ax_isub (pc := 264) C dX1_answer_264 ?_
    exact ax_ir (pc := 265) C rfl dX1_answer_265 (by first | with_reducible rfl | (simp only [as_17, as_18]; done) | (simp only [as_17, as_18]; with_reducible rfl) | (show _ = _; simp only [show ∀ (υ : ax_Z) (t : Nat) (b : Int32), ax_up (ax_up υ 40 t b) 39 1 (nI (t + 1)) = as_p υ t b from fun _ _ _ => rfl, as_17, as_18]; done) | rfl) rfl

set_option maxRecDepth 20000 in
set_option maxHeartbeats 4000000 in
theorem w_X1_answer_23_5 {Y : ax_Y} {ad : Nat → Nat} (F : ax_F Y) {l : Launch} {σ : ax_Z} {c t d : Nat} (hc : c < 6) (ht : σ 39 1 = nI t) (h16 : t + 5 ≤ 16) (hd : d + 3 ≤ 16) (hk : σ 16 c = 5) : ax_m Y ad l iX1_answer 3 σ [.ref (ad 39), .ref (ad 14), .int (nI c), .int 23, .int (nI d)] (some (.int (nI c - 2 * (σ 18 c - 100)))) (as_c σ t [23, 20, 14, 13, 10]) := by
  obtain ⟨a1, hS1⟩ := ax_St_1 F
  obtain ⟨a2, hS2⟩ := ax_St_2 F
  refine ax_m.of F kX1_answer.1 [some (.ref (ad 39)), some (.ref (ad 14)), some (.int (nI c)), some (.int (23)), some (.int (nI d)), none, none] rfl (Nat.le_of_ble_eq_true rfl) (fun x C => ?_)
  refine ax_iload_4 (pc := 0) C dX1_answer_0 ?_
  refine ax_bipush (pc := 2) (v := 16) C dX1_answer_2 (by decide) ?_
  refine ax_icmp_le (pc := 4) (tgt := 9) C dX1_answer_4 (by decide) (fun _ => ?_) (fun z => False.elim (z (nI_le (a := d) (b := 16) (by omega) (by decide))))
  refine ax_aload_0 (pc := 9) C dX1_answer_9 ?_
  refine ax_getI (pc := 10) C fX1_15 dX1_answer_10 rfl rfl ?_
  refine ax_val C ht ?_
  refine ax_bipush (pc := 13) (v := 16) C dX1_answer_13 (by decide) ?_
  refine ax_icmp_ge (pc := 15) (tgt := 38) C dX1_answer_15 (by decide) (fun z => False.elim (nI_ge (a := t) (b := 16) (by omega) (by decide) z)) (fun _ => ?_)
  refine ax_aload_0 (pc := 18) C dX1_answer_18 ?_
  refine ax_getR (pc := 19) C fX1_9 dX1_answer_19 rfl rfl ?_
  refine ax_aload_0 (pc := 22) C dX1_answer_22 ?_
  refine ax_getI (pc := 23) C fX1_15 dX1_answer_23 rfl rfl ?_
  refine ax_val C ht ?_
  refine ax_iload_3 (pc := 26) C dX1_answer_26 ?_
  refine ax_isn (pc := 27) C dX1_answer_27 rfl (by omega) (by decide) ?_
  refine ax_aload_0 (pc := 28) C dX1_answer_28 ?_
  refine ax_dup (pc := 29) C dX1_answer_29 rfl ?_
  refine ax_getI (pc := 30) C fX1_15 dX1_answer_30 rfl rfl ?_
  refine ax_val C (show _ = nI t by rw [up_ne (by decide)]; exact ht) ?_
  refine ax_iconst (pc := 33) (v := 1) C dX1_answer_33 (by decide) ?_
  refine ax_iadd (pc := 34) C dX1_answer_34 ?_
  refine ax_val C (nI_1 t) ?_
  refine ax_putI (pc := 35) C fX1_15 dX1_answer_35 rfl rfl rfl rfl ?_
  refine ax_iload_4 (pc := 38) C dX1_answer_38 ?_
  refine ax_iconst (pc := 40) (v := 1) C dX1_answer_40 (by decide) ?_
  refine ax_iadd (pc := 41) C dX1_answer_41 ?_
  refine ax_val C (nI_1 d) ?_
  refine ax_istore_5 (pc := 42) C dX1_answer_42 rfl ?_
  refine ax_aload_1 (pc := 44) C dX1_answer_44 ?_
  refine ax_getR (pc := 45) C fX1_19 dX1_answer_45 rfl rfl ?_
  refine ax_iload_2 (pc := 48) C dX1_answer_48 ?_
  refine ax_ian (pc := 49) C dX1_answer_49 rfl (by omega) (by omega) ?_
  refine ax_istore_6 (pc := 50) C dX1_answer_50 rfl ?_
  refine ax_iload_3 (pc := 52) C dX1_answer_52 ?_
  · refine ax_tabIn (pc := 53) (off := 185) (tgt := 238) C dX1_answer_53 (by decide) (by decide) (by decide) (by decide) ?_
    refine ax_aload_0 (pc := 238) C dX1_answer_238 ?_
    refine ax_aload_1 (pc := 239) C dX1_answer_239 ?_
    refine ax_iload_2 (pc := 240) C dX1_answer_240 ?_
    refine ax_bipush (pc := 241) (v := 20) C dX1_answer_241 (by decide) ?_
    refine ax_iload_5 (pc := 243) C dX1_answer_243 ?_
    refine ax_callVi (pc := 245) C (w_X1_answer_20 F (t := t + 1) hc as_l (by omega) (by omega)) kX1_answer mX1_28 dX1_answer_245 (by decide) rfl rfl rfl rfl rfl (Nat.le_of_ble_eq_true rfl) rfl ⟨Nat.le_refl _, Nat.le_refl _⟩ ?_
    refine ax_aload_0 (pc := 248) C dX1_answer_248 ?_
    refine ax_aload_1 (pc := 249) C dX1_answer_249 ?_
    refine ax_iload_2 (pc := 250) C dX1_answer_250 ?_
    refine ax_getsN (pc := 251) C hS1 sn_41 dX1_answer_251 ?_
    refine ax_iload_6 (pc := 254) C dX1_answer_254 ?_
    refine ax_val C (show _ = 5 by rw [show ax_up (ax_up σ 40 t 23) 39 1 (nI (t + 1)) = as_p σ t 23 from rfl, as_16]; exact hk) ?_
    refine ax_callNi (pc := 256) C (w_X6_bodyFor_1_5 F hS1) kX6_bodyFor mX1_24 dX1_answer_256 (by decide) rfl rfl (Nat.le_of_ble_eq_true rfl) rfl ⟨Nat.le_refl _, Nat.le_refl _⟩ ?_
    refine ax_iload_5 (pc := 259) C dX1_answer_259 ?_
    refine ax_callVi (pc := 261) C (w_X1_answer_14 F (t := t + 1 + 1) hc (as_l (σ := as_p σ t 23) (t := t + 1) (b := 20)) (by omega) (by omega)) kX1_answer mX1_28 dX1_answer_261 (by decide) rfl rfl rfl rfl rfl (Nat.le_of_ble_eq_true rfl) rfl ⟨Nat.le_refl _, Nat.le_refl _⟩ ?_
    refine ax_isub (pc := 264) C dX1_answer_264 ?_
    exact ax_ir (pc := 265) C rfl dX1_answer_265 (by first | with_reducible rfl | (simp only [as_17, as_18]; done) | (simp only [as_17, as_18]; with_reducible rfl) | (show _ = _; simp only [show ∀ (υ : ax_Z) (t : Nat) (b : Int32), ax_up (ax_up υ 40 t b) 39 1 (nI (t + 1)) = as_p υ t b from fun _ _ _ => rfl, as_17, as_18]; done) | rfl) rfl

set_option maxRecDepth 20000 in
set_option maxHeartbeats 4000000 in
theorem w_X1_answer_11_1 {Y : ax_Y} {ad : Nat → Nat} (F : ax_F Y) {l : Launch} {σ : ax_Z} {c t d : Nat} (hc : c < 6) (ht : σ 39 1 = nI t) (h16 : t + 4 ≤ 16) (hd : d + 2 ≤ 16) (hk : σ 16 c = 1) : ax_m Y ad l iX1_answer 3 σ [.ref (ad 39), .ref (ad 14), .int (nI c), .int 11, .int (nI d)] (some (.int (σ 18 c + (nI c + σ 17 c)))) (as_c σ t [11, 10, 21, 20]) := by
  obtain ⟨a1, hS1⟩ := ax_St_1 F
  obtain ⟨a2, hS2⟩ := ax_St_2 F
  refine ax_m.of F kX1_answer.1 [some (.ref (ad 39)), some (.ref (ad 14)), some (.int (nI c)), some (.int (11)), some (.int (nI d)), none, none] rfl (Nat.le_of_ble_eq_true rfl) (fun x C => ?_)
  refine ax_iload_4 (pc := 0) C dX1_answer_0 ?_
  refine ax_bipush (pc := 2) (v := 16) C dX1_answer_2 (by decide) ?_
  refine ax_icmp_le (pc := 4) (tgt := 9) C dX1_answer_4 (by decide) (fun _ => ?_) (fun z => False.elim (z (nI_le (a := d) (b := 16) (by omega) (by decide))))
  refine ax_aload_0 (pc := 9) C dX1_answer_9 ?_
  refine ax_getI (pc := 10) C fX1_15 dX1_answer_10 rfl rfl ?_
  refine ax_val C ht ?_
  refine ax_bipush (pc := 13) (v := 16) C dX1_answer_13 (by decide) ?_
  refine ax_icmp_ge (pc := 15) (tgt := 38) C dX1_answer_15 (by decide) (fun z => False.elim (nI_ge (a := t) (b := 16) (by omega) (by decide) z)) (fun _ => ?_)
  refine ax_aload_0 (pc := 18) C dX1_answer_18 ?_
  refine ax_getR (pc := 19) C fX1_9 dX1_answer_19 rfl rfl ?_
  refine ax_aload_0 (pc := 22) C dX1_answer_22 ?_
  refine ax_getI (pc := 23) C fX1_15 dX1_answer_23 rfl rfl ?_
  refine ax_val C ht ?_
  refine ax_iload_3 (pc := 26) C dX1_answer_26 ?_
  refine ax_isn (pc := 27) C dX1_answer_27 rfl (by omega) (by decide) ?_
  refine ax_aload_0 (pc := 28) C dX1_answer_28 ?_
  refine ax_dup (pc := 29) C dX1_answer_29 rfl ?_
  refine ax_getI (pc := 30) C fX1_15 dX1_answer_30 rfl rfl ?_
  refine ax_val C (show _ = nI t by rw [up_ne (by decide)]; exact ht) ?_
  refine ax_iconst (pc := 33) (v := 1) C dX1_answer_33 (by decide) ?_
  refine ax_iadd (pc := 34) C dX1_answer_34 ?_
  refine ax_val C (nI_1 t) ?_
  refine ax_putI (pc := 35) C fX1_15 dX1_answer_35 rfl rfl rfl rfl ?_
  refine ax_iload_4 (pc := 38) C dX1_answer_38 ?_
  refine ax_iconst (pc := 40) (v := 1) C dX1_answer_40 (by decide) ?_
  refine ax_iadd (pc := 41) C dX1_answer_41 ?_
  refine ax_val C (nI_1 d) ?_
  refine ax_istore_5 (pc := 42) C dX1_answer_42 rfl ?_
  refine ax_aload_1 (pc := 44) C dX1_answer_44 ?_
  refine ax_getR (pc := 45) C fX1_19 dX1_answer_45 rfl rfl ?_
  refine ax_iload_2 (pc := 48) C dX1_answer_48 ?_
  refine ax_ian (pc := 49) C dX1_answer_49 rfl (by omega) (by omega) ?_
  refine ax_istore_6 (pc := 50) C dX1_answer_50 rfl ?_
  refine ax_iload_3 (pc := 52) C dX1_answer_52 ?_
  · refine ax_tabIn (pc := 53) (off := 82) (tgt := 135) C dX1_answer_53 (by decide) (by decide) (by decide) (by decide) ?_
    refine ax_aload_0 (pc := 135) C dX1_answer_135 ?_
    refine ax_aload_1 (pc := 136) C dX1_answer_136 ?_
    refine ax_iload_2 (pc := 137) C dX1_answer_137 ?_
    refine ax_bipush (pc := 138) (v := 10) C dX1_answer_138 (by decide) ?_
    refine ax_iload_5 (pc := 140) C dX1_answer_140 ?_
    refine ax_callVi (pc := 142) C (w_X1_answer_10 F (t := t + 1) hc as_l (by omega) (by omega)) kX1_answer mX1_28 dX1_answer_142 (by decide) rfl rfl rfl rfl rfl (Nat.le_of_ble_eq_true rfl) rfl ⟨Nat.le_refl _, Nat.le_refl _⟩ ?_
    refine ax_aload_0 (pc := 145) C dX1_answer_145 ?_
    refine ax_aload_1 (pc := 146) C dX1_answer_146 ?_
    refine ax_iload_2 (pc := 147) C dX1_answer_147 ?_
    refine ax_getsN (pc := 148) C hS2 sn_35 dX1_answer_148 ?_
    refine ax_iload_6 (pc := 151) C dX1_answer_151 ?_
    refine ax_val C (show _ = 1 by rw [show ax_up (ax_up σ 40 t 11) 39 1 (nI (t + 1)) = as_p σ t 11 from rfl, as_16]; exact hk) ?_
    refine ax_callNi (pc := 153) C (w_X6_bodyFor_2_1 F hS2) kX6_bodyFor mX1_24 dX1_answer_153 (by decide) rfl rfl (Nat.le_of_ble_eq_true rfl) rfl ⟨Nat.le_refl _, Nat.le_refl _⟩ ?_
    refine ax_iload_5 (pc := 156) C dX1_answer_156 ?_
    refine ax_callVi (pc := 158) C (w_X1_answer_21 F (t := t + 1 + 1) hc (as_l (σ := as_p σ t 11) (t := t + 1) (b := 10)) (by omega) (by omega)) kX1_answer mX1_28 dX1_answer_158 (by decide) rfl rfl rfl rfl rfl (Nat.le_of_ble_eq_true rfl) rfl ⟨Nat.le_refl _, Nat.le_refl _⟩ ?_
    refine ax_iadd (pc := 161) C dX1_answer_161 ?_
    exact ax_ir (pc := 162) C rfl dX1_answer_162 (by first | with_reducible rfl | (simp only [as_17, as_18]; done) | (simp only [as_17, as_18]; with_reducible rfl) | (show _ = _; simp only [show ∀ (υ : ax_Z) (t : Nat) (b : Int32), ax_up (ax_up υ 40 t b) 39 1 (nI (t + 1)) = as_p υ t b from fun _ _ _ => rfl, as_17, as_18]; done) | rfl) rfl

set_option maxRecDepth 20000 in
set_option maxHeartbeats 4000000 in
theorem w_X1_answer_11_2 {Y : ax_Y} {ad : Nat → Nat} (F : ax_F Y) {l : Launch} {σ : ax_Z} {c t d : Nat} (hc : c < 6) (ht : σ 39 1 = nI t) (h16 : t + 5 ≤ 16) (hd : d + 3 ≤ 16) (hk : σ 16 c = 2) : ax_m Y ad l iX1_answer 3 σ [.ref (ad 39), .ref (ad 14), .int (nI c), .int 11, .int (nI d)] (some (.int (σ 18 c + 2 * (nI c + σ 17 c)))) (as_c σ t [11, 10, 24, 21, 20]) := by
  obtain ⟨a1, hS1⟩ := ax_St_1 F
  obtain ⟨a2, hS2⟩ := ax_St_2 F
  refine ax_m.of F kX1_answer.1 [some (.ref (ad 39)), some (.ref (ad 14)), some (.int (nI c)), some (.int (11)), some (.int (nI d)), none, none] rfl (Nat.le_of_ble_eq_true rfl) (fun x C => ?_)
  refine ax_iload_4 (pc := 0) C dX1_answer_0 ?_
  refine ax_bipush (pc := 2) (v := 16) C dX1_answer_2 (by decide) ?_
  refine ax_icmp_le (pc := 4) (tgt := 9) C dX1_answer_4 (by decide) (fun _ => ?_) (fun z => False.elim (z (nI_le (a := d) (b := 16) (by omega) (by decide))))
  refine ax_aload_0 (pc := 9) C dX1_answer_9 ?_
  refine ax_getI (pc := 10) C fX1_15 dX1_answer_10 rfl rfl ?_
  refine ax_val C ht ?_
  refine ax_bipush (pc := 13) (v := 16) C dX1_answer_13 (by decide) ?_
  refine ax_icmp_ge (pc := 15) (tgt := 38) C dX1_answer_15 (by decide) (fun z => False.elim (nI_ge (a := t) (b := 16) (by omega) (by decide) z)) (fun _ => ?_)
  refine ax_aload_0 (pc := 18) C dX1_answer_18 ?_
  refine ax_getR (pc := 19) C fX1_9 dX1_answer_19 rfl rfl ?_
  refine ax_aload_0 (pc := 22) C dX1_answer_22 ?_
  refine ax_getI (pc := 23) C fX1_15 dX1_answer_23 rfl rfl ?_
  refine ax_val C ht ?_
  refine ax_iload_3 (pc := 26) C dX1_answer_26 ?_
  refine ax_isn (pc := 27) C dX1_answer_27 rfl (by omega) (by decide) ?_
  refine ax_aload_0 (pc := 28) C dX1_answer_28 ?_
  refine ax_dup (pc := 29) C dX1_answer_29 rfl ?_
  refine ax_getI (pc := 30) C fX1_15 dX1_answer_30 rfl rfl ?_
  refine ax_val C (show _ = nI t by rw [up_ne (by decide)]; exact ht) ?_
  refine ax_iconst (pc := 33) (v := 1) C dX1_answer_33 (by decide) ?_
  refine ax_iadd (pc := 34) C dX1_answer_34 ?_
  refine ax_val C (nI_1 t) ?_
  refine ax_putI (pc := 35) C fX1_15 dX1_answer_35 rfl rfl rfl rfl ?_
  refine ax_iload_4 (pc := 38) C dX1_answer_38 ?_
  refine ax_iconst (pc := 40) (v := 1) C dX1_answer_40 (by decide) ?_
  refine ax_iadd (pc := 41) C dX1_answer_41 ?_
  refine ax_val C (nI_1 d) ?_
  refine ax_istore_5 (pc := 42) C dX1_answer_42 rfl ?_
  refine ax_aload_1 (pc := 44) C dX1_answer_44 ?_
  refine ax_getR (pc := 45) C fX1_19 dX1_answer_45 rfl rfl ?_
  refine ax_iload_2 (pc := 48) C dX1_answer_48 ?_
  refine ax_ian (pc := 49) C dX1_answer_49 rfl (by omega) (by omega) ?_
  refine ax_istore_6 (pc := 50) C dX1_answer_50 rfl ?_
  refine ax_iload_3 (pc := 52) C dX1_answer_52 ?_
  · refine ax_tabIn (pc := 53) (off := 82) (tgt := 135) C dX1_answer_53 (by decide) (by decide) (by decide) (by decide) ?_
    refine ax_aload_0 (pc := 135) C dX1_answer_135 ?_
    refine ax_aload_1 (pc := 136) C dX1_answer_136 ?_
    refine ax_iload_2 (pc := 137) C dX1_answer_137 ?_
    refine ax_bipush (pc := 138) (v := 10) C dX1_answer_138 (by decide) ?_
    refine ax_iload_5 (pc := 140) C dX1_answer_140 ?_
    refine ax_callVi (pc := 142) C (w_X1_answer_10 F (t := t + 1) hc as_l (by omega) (by omega)) kX1_answer mX1_28 dX1_answer_142 (by decide) rfl rfl rfl rfl rfl (Nat.le_of_ble_eq_true rfl) rfl ⟨Nat.le_refl _, Nat.le_refl _⟩ ?_
    refine ax_aload_0 (pc := 145) C dX1_answer_145 ?_
    refine ax_aload_1 (pc := 146) C dX1_answer_146 ?_
    refine ax_iload_2 (pc := 147) C dX1_answer_147 ?_
    refine ax_getsN (pc := 148) C hS2 sn_35 dX1_answer_148 ?_
    refine ax_iload_6 (pc := 151) C dX1_answer_151 ?_
    refine ax_val C (show _ = 2 by rw [show ax_up (ax_up σ 40 t 11) 39 1 (nI (t + 1)) = as_p σ t 11 from rfl, as_16]; exact hk) ?_
    refine ax_callNi (pc := 153) C (w_X6_bodyFor_2_2 F hS2) kX6_bodyFor mX1_24 dX1_answer_153 (by decide) rfl rfl (Nat.le_of_ble_eq_true rfl) rfl ⟨Nat.le_refl _, Nat.le_refl _⟩ ?_
    refine ax_iload_5 (pc := 156) C dX1_answer_156 ?_
    refine ax_callVi (pc := 158) C (w_X1_answer_24 F (t := t + 1 + 1) hc (as_l (σ := as_p σ t 11) (t := t + 1) (b := 10)) (by omega) (by omega)) kX1_answer mX1_28 dX1_answer_158 (by decide) rfl rfl rfl rfl rfl (Nat.le_of_ble_eq_true rfl) rfl ⟨Nat.le_refl _, Nat.le_refl _⟩ ?_
    refine ax_iadd (pc := 161) C dX1_answer_161 ?_
    exact ax_ir (pc := 162) C rfl dX1_answer_162 (by first | with_reducible rfl | (simp only [as_17, as_18]; done) | (simp only [as_17, as_18]; with_reducible rfl) | (show _ = _; simp only [show ∀ (υ : ax_Z) (t : Nat) (b : Int32), ax_up (ax_up υ 40 t b) 39 1 (nI (t + 1)) = as_p υ t b from fun _ _ _ => rfl, as_17, as_18]; done) | rfl) rfl

set_option maxRecDepth 20000 in
set_option maxHeartbeats 4000000 in
theorem w_X1_answer_11_3 {Y : ax_Y} {ad : Nat → Nat} (F : ax_F Y) {l : Launch} {σ : ax_Z} {c t d : Nat} (hc : c < 6) (ht : σ 39 1 = nI t) (h16 : t + 5 ≤ 16) (hd : d + 3 ≤ 16) (hk : σ 16 c = 3) : ax_m Y ad l iX1_answer 3 σ [.ref (ad 39), .ref (ad 14), .int (nI c), .int 11, .int (nI d)] (some (.int (σ 18 c + (nI c + σ 17 c - 1000)))) (as_c σ t [11, 10, 22, 21, 20]) := by
  obtain ⟨a1, hS1⟩ := ax_St_1 F
  obtain ⟨a2, hS2⟩ := ax_St_2 F
  refine ax_m.of F kX1_answer.1 [some (.ref (ad 39)), some (.ref (ad 14)), some (.int (nI c)), some (.int (11)), some (.int (nI d)), none, none] rfl (Nat.le_of_ble_eq_true rfl) (fun x C => ?_)
  refine ax_iload_4 (pc := 0) C dX1_answer_0 ?_
  refine ax_bipush (pc := 2) (v := 16) C dX1_answer_2 (by decide) ?_
  refine ax_icmp_le (pc := 4) (tgt := 9) C dX1_answer_4 (by decide) (fun _ => ?_) (fun z => False.elim (z (nI_le (a := d) (b := 16) (by omega) (by decide))))
  refine ax_aload_0 (pc := 9) C dX1_answer_9 ?_
  refine ax_getI (pc := 10) C fX1_15 dX1_answer_10 rfl rfl ?_
  refine ax_val C ht ?_
  refine ax_bipush (pc := 13) (v := 16) C dX1_answer_13 (by decide) ?_
  refine ax_icmp_ge (pc := 15) (tgt := 38) C dX1_answer_15 (by decide) (fun z => False.elim (nI_ge (a := t) (b := 16) (by omega) (by decide) z)) (fun _ => ?_)
  refine ax_aload_0 (pc := 18) C dX1_answer_18 ?_
  refine ax_getR (pc := 19) C fX1_9 dX1_answer_19 rfl rfl ?_
  refine ax_aload_0 (pc := 22) C dX1_answer_22 ?_
  refine ax_getI (pc := 23) C fX1_15 dX1_answer_23 rfl rfl ?_
  refine ax_val C ht ?_
  refine ax_iload_3 (pc := 26) C dX1_answer_26 ?_
  refine ax_isn (pc := 27) C dX1_answer_27 rfl (by omega) (by decide) ?_
  refine ax_aload_0 (pc := 28) C dX1_answer_28 ?_
  refine ax_dup (pc := 29) C dX1_answer_29 rfl ?_
  refine ax_getI (pc := 30) C fX1_15 dX1_answer_30 rfl rfl ?_
  refine ax_val C (show _ = nI t by rw [up_ne (by decide)]; exact ht) ?_
  refine ax_iconst (pc := 33) (v := 1) C dX1_answer_33 (by decide) ?_
  refine ax_iadd (pc := 34) C dX1_answer_34 ?_
  refine ax_val C (nI_1 t) ?_
  refine ax_putI (pc := 35) C fX1_15 dX1_answer_35 rfl rfl rfl rfl ?_
  refine ax_iload_4 (pc := 38) C dX1_answer_38 ?_
  refine ax_iconst (pc := 40) (v := 1) C dX1_answer_40 (by decide) ?_
  refine ax_iadd (pc := 41) C dX1_answer_41 ?_
  refine ax_val C (nI_1 d) ?_
  refine ax_istore_5 (pc := 42) C dX1_answer_42 rfl ?_
  refine ax_aload_1 (pc := 44) C dX1_answer_44 ?_
  refine ax_getR (pc := 45) C fX1_19 dX1_answer_45 rfl rfl ?_
  refine ax_iload_2 (pc := 48) C dX1_answer_48 ?_
  refine ax_ian (pc := 49) C dX1_answer_49 rfl (by omega) (by omega) ?_
  refine ax_istore_6 (pc := 50) C dX1_answer_50 rfl ?_
  refine ax_iload_3 (pc := 52) C dX1_answer_52 ?_
  · refine ax_tabIn (pc := 53) (off := 82) (tgt := 135) C dX1_answer_53 (by decide) (by decide) (by decide) (by decide) ?_
    refine ax_aload_0 (pc := 135) C dX1_answer_135 ?_
    refine ax_aload_1 (pc := 136) C dX1_answer_136 ?_
    refine ax_iload_2 (pc := 137) C dX1_answer_137 ?_
    refine ax_bipush (pc := 138) (v := 10) C dX1_answer_138 (by decide) ?_
    refine ax_iload_5 (pc := 140) C dX1_answer_140 ?_
    refine ax_callVi (pc := 142) C (w_X1_answer_10 F (t := t + 1) hc as_l (by omega) (by omega)) kX1_answer mX1_28 dX1_answer_142 (by decide) rfl rfl rfl rfl rfl (Nat.le_of_ble_eq_true rfl) rfl ⟨Nat.le_refl _, Nat.le_refl _⟩ ?_
    refine ax_aload_0 (pc := 145) C dX1_answer_145 ?_
    refine ax_aload_1 (pc := 146) C dX1_answer_146 ?_
    refine ax_iload_2 (pc := 147) C dX1_answer_147 ?_
    refine ax_getsN (pc := 148) C hS2 sn_35 dX1_answer_148 ?_
    refine ax_iload_6 (pc := 151) C dX1_answer_151 ?_
    refine ax_val C (show _ = 3 by rw [show ax_up (ax_up σ 40 t 11) 39 1 (nI (t + 1)) = as_p σ t 11 from rfl, as_16]; exact hk) ?_
    refine ax_callNi (pc := 153) C (w_X6_bodyFor_2_3 F hS2) kX6_bodyFor mX1_24 dX1_answer_153 (by decide) rfl rfl (Nat.le_of_ble_eq_true rfl) rfl ⟨Nat.le_refl _, Nat.le_refl _⟩ ?_
    refine ax_iload_5 (pc := 156) C dX1_answer_156 ?_
    refine ax_callVi (pc := 158) C (w_X1_answer_22 F (t := t + 1 + 1) hc (as_l (σ := as_p σ t 11) (t := t + 1) (b := 10)) (by omega) (by omega)) kX1_answer mX1_28 dX1_answer_158 (by decide) rfl rfl rfl rfl rfl (Nat.le_of_ble_eq_true rfl) rfl ⟨Nat.le_refl _, Nat.le_refl _⟩ ?_
    refine ax_iadd (pc := 161) C dX1_answer_161 ?_
    exact ax_ir (pc := 162) C rfl dX1_answer_162 (by first | with_reducible rfl | (simp only [as_17, as_18]; done) | (simp only [as_17, as_18]; with_reducible rfl) | (show _ = _; simp only [show ∀ (υ : ax_Z) (t : Nat) (b : Int32), ax_up (ax_up υ 40 t b) 39 1 (nI (t + 1)) = as_p υ t b from fun _ _ _ => rfl, as_17, as_18]; done) | rfl) rfl

set_option maxRecDepth 20000 in
set_option maxHeartbeats 4000000 in
theorem w_X1_answer_12 {Y : ax_Y} {ad : Nat → Nat} (F : ax_F Y) {l : Launch} {σ : ax_Z} {c t d : Nat} (hc : c < 6) (ht : σ 39 1 = nI t) (h16 : t + 6 ≤ 16) (hd : d + 4 ≤ 16) (hk : σ 16 c = 2) : ax_m Y ad l iX1_answer 4 σ [.ref (ad 39), .ref (ad 14), .int (nI c), .int 12, .int (nI d)] (some (.int (0 - (σ 18 c + 2 * (nI c + σ 17 c))))) (as_c σ t [12, 11, 10, 24, 21, 20]) := by
  refine ax_m.of F kX1_answer.1 [some (.ref (ad 39)), some (.ref (ad 14)), some (.int (nI c)), some (.int (12)), some (.int (nI d)), none, none] rfl (Nat.le_of_ble_eq_true rfl) (fun x C => ?_)
  refine ax_iload_4 (pc := 0) C dX1_answer_0 ?_
  refine ax_bipush (pc := 2) (v := 16) C dX1_answer_2 (by decide) ?_
  refine ax_icmp_le (pc := 4) (tgt := 9) C dX1_answer_4 (by decide) (fun _ => ?_) (fun z => False.elim (z (nI_le (a := d) (b := 16) (by omega) (by decide))))
  refine ax_aload_0 (pc := 9) C dX1_answer_9 ?_
  refine ax_getI (pc := 10) C fX1_15 dX1_answer_10 rfl rfl ?_
  refine ax_val C ht ?_
  refine ax_bipush (pc := 13) (v := 16) C dX1_answer_13 (by decide) ?_
  refine ax_icmp_ge (pc := 15) (tgt := 38) C dX1_answer_15 (by decide) (fun z => False.elim (nI_ge (a := t) (b := 16) (by omega) (by decide) z)) (fun _ => ?_)
  refine ax_aload_0 (pc := 18) C dX1_answer_18 ?_
  refine ax_getR (pc := 19) C fX1_9 dX1_answer_19 rfl rfl ?_
  refine ax_aload_0 (pc := 22) C dX1_answer_22 ?_
  refine ax_getI (pc := 23) C fX1_15 dX1_answer_23 rfl rfl ?_
  refine ax_val C ht ?_
  refine ax_iload_3 (pc := 26) C dX1_answer_26 ?_
  refine ax_isn (pc := 27) C dX1_answer_27 rfl (by omega) (by decide) ?_
  refine ax_aload_0 (pc := 28) C dX1_answer_28 ?_
  refine ax_dup (pc := 29) C dX1_answer_29 rfl ?_
  refine ax_getI (pc := 30) C fX1_15 dX1_answer_30 rfl rfl ?_
  refine ax_val C (show _ = nI t by rw [up_ne (by decide)]; exact ht) ?_
  refine ax_iconst (pc := 33) (v := 1) C dX1_answer_33 (by decide) ?_
  refine ax_iadd (pc := 34) C dX1_answer_34 ?_
  refine ax_val C (nI_1 t) ?_
  refine ax_putI (pc := 35) C fX1_15 dX1_answer_35 rfl rfl rfl rfl ?_
  refine ax_iload_4 (pc := 38) C dX1_answer_38 ?_
  refine ax_iconst (pc := 40) (v := 1) C dX1_answer_40 (by decide) ?_
  refine ax_iadd (pc := 41) C dX1_answer_41 ?_
  refine ax_val C (nI_1 d) ?_
  refine ax_istore_5 (pc := 42) C dX1_answer_42 rfl ?_
  refine ax_aload_1 (pc := 44) C dX1_answer_44 ?_
  refine ax_getR (pc := 45) C fX1_19 dX1_answer_45 rfl rfl ?_
  refine ax_iload_2 (pc := 48) C dX1_answer_48 ?_
  refine ax_ian (pc := 49) C dX1_answer_49 rfl (by omega) (by omega) ?_
  refine ax_istore_6 (pc := 50) C dX1_answer_50 rfl ?_
  refine ax_iload_3 (pc := 52) C dX1_answer_52 ?_
  · refine ax_tabIn (pc := 53) (off := 110) (tgt := 163) C dX1_answer_53 (by decide) (by decide) (by decide) (by decide) ?_
    refine ax_iconst (pc := 163) (v := 0) C dX1_answer_163 (by decide) ?_
    refine ax_aload_0 (pc := 164) C dX1_answer_164 ?_
    refine ax_aload_1 (pc := 165) C dX1_answer_165 ?_
    refine ax_iload_2 (pc := 166) C dX1_answer_166 ?_
    refine ax_bipush (pc := 167) (v := 11) C dX1_answer_167 (by decide) ?_
    refine ax_iload_5 (pc := 169) C dX1_answer_169 ?_
    refine ax_callVi (pc := 171) C (w_X1_answer_11_2 F (t := t + 1) hc as_l (by omega) (by omega) (by rw [show ax_up (ax_up σ 40 t 12) 39 1 (nI (t + 1)) = as_p σ t 12 from rfl, as_16]; exact hk)) kX1_answer mX1_28 dX1_answer_171 (by decide) rfl rfl rfl rfl rfl (Nat.le_of_ble_eq_true rfl) rfl ⟨Nat.le_refl _, Nat.le_refl _⟩ ?_
    refine ax_isub (pc := 174) C dX1_answer_174 ?_
    exact ax_ir (pc := 175) C rfl dX1_answer_175 (by first | with_reducible rfl | (simp only [as_17, as_18]; done) | (simp only [as_17, as_18]; with_reducible rfl) | (show _ = _; simp only [show ∀ (υ : ax_Z) (t : Nat) (b : Int32), ax_up (ax_up υ 40 t b) 39 1 (nI (t + 1)) = as_p υ t b from fun _ _ _ => rfl, as_17, as_18]; done) | rfl) rfl

set_option maxRecDepth 20000 in
set_option maxHeartbeats 4000000 in
theorem w_X1_begin_1_1 {Y : ax_Y} {ad : Nat → Nat} (F : ax_F Y) {l : Launch} {σ : ax_Z} {c a : Nat} (hc : c < 6) (hk : σ 16 c = 1) (hs : ax_St Y 1 a) : ax_m Y ad l iX1_begin 5 σ [.ref (ad 39), .ref (ad 14), .int (nI c), .ref a] (some (.int (σ 18 c + (nI c + σ 17 c)))) (as_c (ax_up σ 39 1 0) 0 [11, 10, 21, 20]) := by
  refine ax_m.of F kX1_begin.1 [some (.ref (ad 39)), some (.ref (ad 14)), some (.int (nI c)), some (.ref a)] rfl (Nat.le_of_ble_eq_true rfl) (fun x C => ?_)
  refine ax_aload_0 (pc := 0) C dX1_begin_0 ?_
  refine ax_iconst (pc := 1) (v := 0) C dX1_begin_1 (by decide) ?_
  refine ax_putI (pc := 2) C fX1_15 dX1_begin_2 rfl rfl rfl rfl ?_
  refine ax_aload_0 (pc := 5) C dX1_begin_5 ?_
  refine ax_aload_1 (pc := 6) C dX1_begin_6 ?_
  refine ax_iload_2 (pc := 7) C dX1_begin_7 ?_
  refine ax_aload_3 (pc := 8) C dX1_begin_8 ?_
  refine ax_aload_1 (pc := 9) C dX1_begin_9 ?_
  refine ax_getR (pc := 10) C fX1_19 dX1_begin_10 rfl rfl ?_
  refine ax_iload_2 (pc := 13) C dX1_begin_13 ?_
  refine ax_ian (pc := 14) C dX1_begin_14 rfl (by omega) (by omega) ?_
  refine ax_val C (show _ = 1 by rw [up_ne (by decide)]; exact hk) ?_
  refine ax_callNi (pc := 15) C (w_X6_bodyFor_1_1 F hs) kX6_bodyFor mX1_24 dX1_begin_15 (by decide) rfl rfl (Nat.le_of_ble_eq_true rfl) rfl ⟨Nat.le_refl _, Nat.le_refl _⟩ ?_
  refine ax_iconst (pc := 18) (v := 0) C dX1_begin_18 (by decide) ?_
  refine ax_callVi (pc := 19) C (w_X1_answer_11_1 F (t := 0) (d := 0) hc up_s (by decide) (by decide) (by rw [up_ne (by decide)]; exact hk)) kX1_answer mX1_28 dX1_begin_19 (by decide) rfl rfl rfl rfl rfl (Nat.le_of_ble_eq_true rfl) rfl ⟨Nat.le_refl _, Nat.le_refl _⟩ ?_
  exact ax_ir (pc := 22) C rfl dX1_begin_22 (by rw [up_ne (show (17 : Nat) ≠ 39 by decide), up_ne (show (18 : Nat) ≠ 39 by decide)]) rfl

set_option maxRecDepth 20000 in
set_option maxHeartbeats 4000000 in
theorem w_X6_ask_1_1 {Y : ax_Y} {ad : Nat → Nat} (F : ax_F Y) {l : Launch} {σ : ax_Z} {n : Nat} (hn : σ 14 10 = nI n) (h6 : n ≤ 6) {c : Nat} (hc : c < n) (hk : σ 16 c = 1) : ax_m Y ad l iX6_ask 6 σ [.ref (ad 0), .int (nI c), .int 0] (some (.int (σ 18 c + (nI c + σ 17 c)))) (as_c (ax_up σ 39 1 0) 0 [11, 10, 21, 20]) := by
  obtain ⟨a1, hS1⟩ := ax_St_1 F
  refine ax_m.of F kX6_ask.1 [some (.ref (ad 0)), some (.int (nI c)), some (.int (0))] rfl (Nat.le_of_ble_eq_true rfl) (fun x C => ?_)
  refine ax_aload_0 (pc := 0) C dX6_ask_0 ?_
  refine ax_iload_1 (pc := 1) C dX6_ask_1 ?_
  refine ax_callVi (pc := 2) C (w_X6_isCartN F hn) kX6_isCart mX6_146 dX6_ask_2 (by decide) rfl rfl rfl rfl rfl (Nat.le_of_ble_eq_true rfl) rfl ⟨Nat.le_refl _, Nat.le_refl _⟩ ?_
  refine ax_if_eq (pc := 5) (tgt := 17) C dX6_ask_5 (by decide) (fun z => False.elim (ax_beq z (ax_cq hc (by omega)))) (fun _ => ?_)
  refine ax_iload_2 (pc := 8) C dX6_ask_8 ?_
  refine ax_iconst (pc := 9) (v := 0) C dX6_ask_9 (by decide) ?_
  refine ax_iconst (pc := 10) (v := 1) C dX6_ask_10 (by decide) ?_
  refine ax_callSi (pc := 11) C (w_X6_isWithin F) kX6_isWithin mX6_59 dX6_ask_11 (by decide) rfl rfl (Nat.le_of_ble_eq_true rfl) rfl ⟨Nat.le_refl _, Nat.le_refl _⟩ ?_
  refine ax_if_ne (pc := 14) (tgt := 20) C dX6_ask_14 (by decide) (fun _ => ?_) (fun z => False.elim (ax_beq z (by decide)))
  refine ax_aload_0 (pc := 20) C dX6_ask_20 ?_
  refine ax_getR (pc := 21) C fX6_50 dX6_ask_21 rfl rfl ?_
  refine ax_aload_0 (pc := 24) C dX6_ask_24 ?_
  refine ax_getR (pc := 25) C fX6_25 dX6_ask_25 rfl rfl ?_
  refine ax_iload_1 (pc := 28) C dX6_ask_28 ?_
  refine ax_iload_2 (pc := 29) C dX6_ask_29 ?_
  refine ax_if_ne (pc := 30) (tgt := 39) C dX6_ask_30 (by decide) (fun z => False.elim (absurd z (by decide))) (fun _ => ?_)
  refine ax_gets (pc := 33) C hS1 st_231 dX6_ask_33 ?_
  refine ax_goto (pc := 36) (tgt := 42) C dX6_ask_36 (by decide) ?_
  refine ax_callVi (pc := 42) C (w_X1_begin_1_1 F (by omega) hk hS1) kX1_begin mX6_237 dX6_ask_42 (by decide) rfl rfl rfl rfl rfl (Nat.le_of_ble_eq_true rfl) rfl ⟨Nat.le_refl _, Nat.le_refl _⟩ ?_
  exact ax_ir (pc := 45) C rfl dX6_ask_45 rfl rfl

set_option maxRecDepth 20000 in
set_option maxHeartbeats 4000000 in
theorem w_X1_begin_1_2 {Y : ax_Y} {ad : Nat → Nat} (F : ax_F Y) {l : Launch} {σ : ax_Z} {c a : Nat} (hc : c < 6) (hk : σ 16 c = 2) (hs : ax_St Y 1 a) : ax_m Y ad l iX1_begin 5 σ [.ref (ad 39), .ref (ad 14), .int (nI c), .ref a] (some (.int (0 - (σ 18 c + 2 * (nI c + σ 17 c))))) (as_c (ax_up σ 39 1 0) 0 [12, 11, 10, 24, 21, 20]) := by
  refine ax_m.of F kX1_begin.1 [some (.ref (ad 39)), some (.ref (ad 14)), some (.int (nI c)), some (.ref a)] rfl (Nat.le_of_ble_eq_true rfl) (fun x C => ?_)
  refine ax_aload_0 (pc := 0) C dX1_begin_0 ?_
  refine ax_iconst (pc := 1) (v := 0) C dX1_begin_1 (by decide) ?_
  refine ax_putI (pc := 2) C fX1_15 dX1_begin_2 rfl rfl rfl rfl ?_
  refine ax_aload_0 (pc := 5) C dX1_begin_5 ?_
  refine ax_aload_1 (pc := 6) C dX1_begin_6 ?_
  refine ax_iload_2 (pc := 7) C dX1_begin_7 ?_
  refine ax_aload_3 (pc := 8) C dX1_begin_8 ?_
  refine ax_aload_1 (pc := 9) C dX1_begin_9 ?_
  refine ax_getR (pc := 10) C fX1_19 dX1_begin_10 rfl rfl ?_
  refine ax_iload_2 (pc := 13) C dX1_begin_13 ?_
  refine ax_ian (pc := 14) C dX1_begin_14 rfl (by omega) (by omega) ?_
  refine ax_val C (show _ = 2 by rw [up_ne (by decide)]; exact hk) ?_
  refine ax_callNi (pc := 15) C (w_X6_bodyFor_1_2 F hs) kX6_bodyFor mX1_24 dX1_begin_15 (by decide) rfl rfl (Nat.le_of_ble_eq_true rfl) rfl ⟨Nat.le_refl _, Nat.le_refl _⟩ ?_
  refine ax_iconst (pc := 18) (v := 0) C dX1_begin_18 (by decide) ?_
  refine ax_callVi (pc := 19) C (w_X1_answer_12 F (t := 0) (d := 0) hc up_s (by decide) (by decide) (by rw [up_ne (by decide)]; exact hk)) kX1_answer mX1_28 dX1_begin_19 (by decide) rfl rfl rfl rfl rfl (Nat.le_of_ble_eq_true rfl) rfl ⟨Nat.le_refl _, Nat.le_refl _⟩ ?_
  exact ax_ir (pc := 22) C rfl dX1_begin_22 (by rw [up_ne (show (17 : Nat) ≠ 39 by decide), up_ne (show (18 : Nat) ≠ 39 by decide)]) rfl

set_option maxRecDepth 20000 in
set_option maxHeartbeats 4000000 in
theorem w_X6_ask_1_2 {Y : ax_Y} {ad : Nat → Nat} (F : ax_F Y) {l : Launch} {σ : ax_Z} {n : Nat} (hn : σ 14 10 = nI n) (h6 : n ≤ 6) {c : Nat} (hc : c < n) (hk : σ 16 c = 2) : ax_m Y ad l iX6_ask 6 σ [.ref (ad 0), .int (nI c), .int 0] (some (.int (0 - (σ 18 c + 2 * (nI c + σ 17 c))))) (as_c (ax_up σ 39 1 0) 0 [12, 11, 10, 24, 21, 20]) := by
  obtain ⟨a1, hS1⟩ := ax_St_1 F
  refine ax_m.of F kX6_ask.1 [some (.ref (ad 0)), some (.int (nI c)), some (.int (0))] rfl (Nat.le_of_ble_eq_true rfl) (fun x C => ?_)
  refine ax_aload_0 (pc := 0) C dX6_ask_0 ?_
  refine ax_iload_1 (pc := 1) C dX6_ask_1 ?_
  refine ax_callVi (pc := 2) C (w_X6_isCartN F hn) kX6_isCart mX6_146 dX6_ask_2 (by decide) rfl rfl rfl rfl rfl (Nat.le_of_ble_eq_true rfl) rfl ⟨Nat.le_refl _, Nat.le_refl _⟩ ?_
  refine ax_if_eq (pc := 5) (tgt := 17) C dX6_ask_5 (by decide) (fun z => False.elim (ax_beq z (ax_cq hc (by omega)))) (fun _ => ?_)
  refine ax_iload_2 (pc := 8) C dX6_ask_8 ?_
  refine ax_iconst (pc := 9) (v := 0) C dX6_ask_9 (by decide) ?_
  refine ax_iconst (pc := 10) (v := 1) C dX6_ask_10 (by decide) ?_
  refine ax_callSi (pc := 11) C (w_X6_isWithin F) kX6_isWithin mX6_59 dX6_ask_11 (by decide) rfl rfl (Nat.le_of_ble_eq_true rfl) rfl ⟨Nat.le_refl _, Nat.le_refl _⟩ ?_
  refine ax_if_ne (pc := 14) (tgt := 20) C dX6_ask_14 (by decide) (fun _ => ?_) (fun z => False.elim (ax_beq z (by decide)))
  refine ax_aload_0 (pc := 20) C dX6_ask_20 ?_
  refine ax_getR (pc := 21) C fX6_50 dX6_ask_21 rfl rfl ?_
  refine ax_aload_0 (pc := 24) C dX6_ask_24 ?_
  refine ax_getR (pc := 25) C fX6_25 dX6_ask_25 rfl rfl ?_
  refine ax_iload_1 (pc := 28) C dX6_ask_28 ?_
  refine ax_iload_2 (pc := 29) C dX6_ask_29 ?_
  refine ax_if_ne (pc := 30) (tgt := 39) C dX6_ask_30 (by decide) (fun z => False.elim (absurd z (by decide))) (fun _ => ?_)
  refine ax_gets (pc := 33) C hS1 st_231 dX6_ask_33 ?_
  refine ax_goto (pc := 36) (tgt := 42) C dX6_ask_36 (by decide) ?_
  refine ax_callVi (pc := 42) C (w_X1_begin_1_2 F (by omega) hk hS1) kX1_begin mX6_237 dX6_ask_42 (by decide) rfl rfl rfl rfl rfl (Nat.le_of_ble_eq_true rfl) rfl ⟨Nat.le_refl _, Nat.le_refl _⟩ ?_
  exact ax_ir (pc := 45) C rfl dX6_ask_45 rfl rfl

set_option maxRecDepth 20000 in
set_option maxHeartbeats 4000000 in
theorem w_X1_begin_1_3 {Y : ax_Y} {ad : Nat → Nat} (F : ax_F Y) {l : Launch} {σ : ax_Z} {c a : Nat} (hc : c < 6) (hk : σ 16 c = 3) (hs : ax_St Y 1 a) : ax_m Y ad l iX1_begin 5 σ [.ref (ad 39), .ref (ad 14), .int (nI c), .ref a] (some (.int (σ 18 c + (nI c + σ 17 c - 1000)))) (as_c (ax_up σ 39 1 0) 0 [11, 10, 22, 21, 20]) := by
  refine ax_m.of F kX1_begin.1 [some (.ref (ad 39)), some (.ref (ad 14)), some (.int (nI c)), some (.ref a)] rfl (Nat.le_of_ble_eq_true rfl) (fun x C => ?_)
  refine ax_aload_0 (pc := 0) C dX1_begin_0 ?_
  refine ax_iconst (pc := 1) (v := 0) C dX1_begin_1 (by decide) ?_
  refine ax_putI (pc := 2) C fX1_15 dX1_begin_2 rfl rfl rfl rfl ?_
  refine ax_aload_0 (pc := 5) C dX1_begin_5 ?_
  refine ax_aload_1 (pc := 6) C dX1_begin_6 ?_
  refine ax_iload_2 (pc := 7) C dX1_begin_7 ?_
  refine ax_aload_3 (pc := 8) C dX1_begin_8 ?_
  refine ax_aload_1 (pc := 9) C dX1_begin_9 ?_
  refine ax_getR (pc := 10) C fX1_19 dX1_begin_10 rfl rfl ?_
  refine ax_iload_2 (pc := 13) C dX1_begin_13 ?_
  refine ax_ian (pc := 14) C dX1_begin_14 rfl (by omega) (by omega) ?_
  refine ax_val C (show _ = 3 by rw [up_ne (by decide)]; exact hk) ?_
  refine ax_callNi (pc := 15) C (w_X6_bodyFor_1_3 F hs) kX6_bodyFor mX1_24 dX1_begin_15 (by decide) rfl rfl (Nat.le_of_ble_eq_true rfl) rfl ⟨Nat.le_refl _, Nat.le_refl _⟩ ?_
  refine ax_iconst (pc := 18) (v := 0) C dX1_begin_18 (by decide) ?_
  refine ax_callVi (pc := 19) C (w_X1_answer_11_3 F (t := 0) (d := 0) hc up_s (by decide) (by decide) (by rw [up_ne (by decide)]; exact hk)) kX1_answer mX1_28 dX1_begin_19 (by decide) rfl rfl rfl rfl rfl (Nat.le_of_ble_eq_true rfl) rfl ⟨Nat.le_refl _, Nat.le_refl _⟩ ?_
  exact ax_ir (pc := 22) C rfl dX1_begin_22 (by rw [up_ne (show (17 : Nat) ≠ 39 by decide), up_ne (show (18 : Nat) ≠ 39 by decide)]) rfl

set_option maxRecDepth 20000 in
set_option maxHeartbeats 4000000 in
theorem w_X6_ask_1_3 {Y : ax_Y} {ad : Nat → Nat} (F : ax_F Y) {l : Launch} {σ : ax_Z} {n : Nat} (hn : σ 14 10 = nI n) (h6 : n ≤ 6) {c : Nat} (hc : c < n) (hk : σ 16 c = 3) : ax_m Y ad l iX6_ask 6 σ [.ref (ad 0), .int (nI c), .int 0] (some (.int (σ 18 c + (nI c + σ 17 c - 1000)))) (as_c (ax_up σ 39 1 0) 0 [11, 10, 22, 21, 20]) := by
  obtain ⟨a1, hS1⟩ := ax_St_1 F
  refine ax_m.of F kX6_ask.1 [some (.ref (ad 0)), some (.int (nI c)), some (.int (0))] rfl (Nat.le_of_ble_eq_true rfl) (fun x C => ?_)
  refine ax_aload_0 (pc := 0) C dX6_ask_0 ?_
  refine ax_iload_1 (pc := 1) C dX6_ask_1 ?_
  refine ax_callVi (pc := 2) C (w_X6_isCartN F hn) kX6_isCart mX6_146 dX6_ask_2 (by decide) rfl rfl rfl rfl rfl (Nat.le_of_ble_eq_true rfl) rfl ⟨Nat.le_refl _, Nat.le_refl _⟩ ?_
  refine ax_if_eq (pc := 5) (tgt := 17) C dX6_ask_5 (by decide) (fun z => False.elim (ax_beq z (ax_cq hc (by omega)))) (fun _ => ?_)
  refine ax_iload_2 (pc := 8) C dX6_ask_8 ?_
  refine ax_iconst (pc := 9) (v := 0) C dX6_ask_9 (by decide) ?_
  refine ax_iconst (pc := 10) (v := 1) C dX6_ask_10 (by decide) ?_
  refine ax_callSi (pc := 11) C (w_X6_isWithin F) kX6_isWithin mX6_59 dX6_ask_11 (by decide) rfl rfl (Nat.le_of_ble_eq_true rfl) rfl ⟨Nat.le_refl _, Nat.le_refl _⟩ ?_
  refine ax_if_ne (pc := 14) (tgt := 20) C dX6_ask_14 (by decide) (fun _ => ?_) (fun z => False.elim (ax_beq z (by decide)))
  refine ax_aload_0 (pc := 20) C dX6_ask_20 ?_
  refine ax_getR (pc := 21) C fX6_50 dX6_ask_21 rfl rfl ?_
  refine ax_aload_0 (pc := 24) C dX6_ask_24 ?_
  refine ax_getR (pc := 25) C fX6_25 dX6_ask_25 rfl rfl ?_
  refine ax_iload_1 (pc := 28) C dX6_ask_28 ?_
  refine ax_iload_2 (pc := 29) C dX6_ask_29 ?_
  refine ax_if_ne (pc := 30) (tgt := 39) C dX6_ask_30 (by decide) (fun z => False.elim (absurd z (by decide))) (fun _ => ?_)
  refine ax_gets (pc := 33) C hS1 st_231 dX6_ask_33 ?_
  refine ax_goto (pc := 36) (tgt := 42) C dX6_ask_36 (by decide) ?_
  refine ax_callVi (pc := 42) C (w_X1_begin_1_3 F (by omega) hk hS1) kX1_begin mX6_237 dX6_ask_42 (by decide) rfl rfl rfl rfl rfl (Nat.le_of_ble_eq_true rfl) rfl ⟨Nat.le_refl _, Nat.le_refl _⟩ ?_
  exact ax_ir (pc := 45) C rfl dX6_ask_45 rfl rfl

set_option maxRecDepth 20000 in
set_option maxHeartbeats 4000000 in
theorem w_X1_begin_1_4 {Y : ax_Y} {ad : Nat → Nat} (F : ax_F Y) {l : Launch} {σ : ax_Z} {c a : Nat} (hc : c < 6) (hk : σ 16 c = 4) (hs : ax_St Y 1 a) : ax_m Y ad l iX1_begin 5 σ [.ref (ad 39), .ref (ad 14), .int (nI c), .ref a] (some (.int (σ 18 c - 100))) (as_c (ax_up σ 39 1 0) 0 [13, 10]) := by
  refine ax_m.of F kX1_begin.1 [some (.ref (ad 39)), some (.ref (ad 14)), some (.int (nI c)), some (.ref a)] rfl (Nat.le_of_ble_eq_true rfl) (fun x C => ?_)
  refine ax_aload_0 (pc := 0) C dX1_begin_0 ?_
  refine ax_iconst (pc := 1) (v := 0) C dX1_begin_1 (by decide) ?_
  refine ax_putI (pc := 2) C fX1_15 dX1_begin_2 rfl rfl rfl rfl ?_
  refine ax_aload_0 (pc := 5) C dX1_begin_5 ?_
  refine ax_aload_1 (pc := 6) C dX1_begin_6 ?_
  refine ax_iload_2 (pc := 7) C dX1_begin_7 ?_
  refine ax_aload_3 (pc := 8) C dX1_begin_8 ?_
  refine ax_aload_1 (pc := 9) C dX1_begin_9 ?_
  refine ax_getR (pc := 10) C fX1_19 dX1_begin_10 rfl rfl ?_
  refine ax_iload_2 (pc := 13) C dX1_begin_13 ?_
  refine ax_ian (pc := 14) C dX1_begin_14 rfl (by omega) (by omega) ?_
  refine ax_val C (show _ = 4 by rw [up_ne (by decide)]; exact hk) ?_
  refine ax_callNi (pc := 15) C (w_X6_bodyFor_1_4 F hs) kX6_bodyFor mX1_24 dX1_begin_15 (by decide) rfl rfl (Nat.le_of_ble_eq_true rfl) rfl ⟨Nat.le_refl _, Nat.le_refl _⟩ ?_
  refine ax_iconst (pc := 18) (v := 0) C dX1_begin_18 (by decide) ?_
  refine ax_callVi (pc := 19) C (w_X1_answer_13 F (t := 0) (d := 0) hc up_s (by decide) (by decide)) kX1_answer mX1_28 dX1_begin_19 (by decide) rfl rfl rfl rfl rfl (Nat.le_of_ble_eq_true rfl) rfl ⟨Nat.le_refl _, Nat.le_refl _⟩ ?_
  exact ax_ir (pc := 22) C rfl dX1_begin_22 (by rw [up_ne (show (18 : Nat) ≠ 39 by decide)]) rfl

set_option maxRecDepth 20000 in
set_option maxHeartbeats 4000000 in
theorem w_X6_ask_1_4 {Y : ax_Y} {ad : Nat → Nat} (F : ax_F Y) {l : Launch} {σ : ax_Z} {n : Nat} (hn : σ 14 10 = nI n) (h6 : n ≤ 6) {c : Nat} (hc : c < n) (hk : σ 16 c = 4) : ax_m Y ad l iX6_ask 6 σ [.ref (ad 0), .int (nI c), .int 0] (some (.int (σ 18 c - 100))) (as_c (ax_up σ 39 1 0) 0 [13, 10]) := by
  obtain ⟨a1, hS1⟩ := ax_St_1 F
  refine ax_m.of F kX6_ask.1 [some (.ref (ad 0)), some (.int (nI c)), some (.int (0))] rfl (Nat.le_of_ble_eq_true rfl) (fun x C => ?_)
  refine ax_aload_0 (pc := 0) C dX6_ask_0 ?_
  refine ax_iload_1 (pc := 1) C dX6_ask_1 ?_
  refine ax_callVi (pc := 2) C (w_X6_isCartN F hn) kX6_isCart mX6_146 dX6_ask_2 (by decide) rfl rfl rfl rfl rfl (Nat.le_of_ble_eq_true rfl) rfl ⟨Nat.le_refl _, Nat.le_refl _⟩ ?_
  refine ax_if_eq (pc := 5) (tgt := 17) C dX6_ask_5 (by decide) (fun z => False.elim (ax_beq z (ax_cq hc (by omega)))) (fun _ => ?_)
  refine ax_iload_2 (pc := 8) C dX6_ask_8 ?_
  refine ax_iconst (pc := 9) (v := 0) C dX6_ask_9 (by decide) ?_
  refine ax_iconst (pc := 10) (v := 1) C dX6_ask_10 (by decide) ?_
  refine ax_callSi (pc := 11) C (w_X6_isWithin F) kX6_isWithin mX6_59 dX6_ask_11 (by decide) rfl rfl (Nat.le_of_ble_eq_true rfl) rfl ⟨Nat.le_refl _, Nat.le_refl _⟩ ?_
  refine ax_if_ne (pc := 14) (tgt := 20) C dX6_ask_14 (by decide) (fun _ => ?_) (fun z => False.elim (ax_beq z (by decide)))
  refine ax_aload_0 (pc := 20) C dX6_ask_20 ?_
  refine ax_getR (pc := 21) C fX6_50 dX6_ask_21 rfl rfl ?_
  refine ax_aload_0 (pc := 24) C dX6_ask_24 ?_
  refine ax_getR (pc := 25) C fX6_25 dX6_ask_25 rfl rfl ?_
  refine ax_iload_1 (pc := 28) C dX6_ask_28 ?_
  refine ax_iload_2 (pc := 29) C dX6_ask_29 ?_
  refine ax_if_ne (pc := 30) (tgt := 39) C dX6_ask_30 (by decide) (fun z => False.elim (absurd z (by decide))) (fun _ => ?_)
  refine ax_gets (pc := 33) C hS1 st_231 dX6_ask_33 ?_
  refine ax_goto (pc := 36) (tgt := 42) C dX6_ask_36 (by decide) ?_
  refine ax_callVi (pc := 42) C (w_X1_begin_1_4 F (by omega) hk hS1) kX1_begin mX6_237 dX6_ask_42 (by decide) rfl rfl rfl rfl rfl (Nat.le_of_ble_eq_true rfl) rfl ⟨Nat.le_refl _, Nat.le_refl _⟩ ?_
  exact ax_ir (pc := 45) C rfl dX6_ask_45 rfl rfl

set_option maxRecDepth 20000 in
set_option maxHeartbeats 4000000 in
theorem w_X1_begin_1_5 {Y : ax_Y} {ad : Nat → Nat} (F : ax_F Y) {l : Launch} {σ : ax_Z} {c a : Nat} (hc : c < 6) (hk : σ 16 c = 5) (hs : ax_St Y 1 a) : ax_m Y ad l iX1_begin 5 σ [.ref (ad 39), .ref (ad 14), .int (nI c), .ref a] (some (.int (2 * (σ 18 c - 100)))) (as_c (ax_up σ 39 1 0) 0 [14, 13, 10]) := by
  refine ax_m.of F kX1_begin.1 [some (.ref (ad 39)), some (.ref (ad 14)), some (.int (nI c)), some (.ref a)] rfl (Nat.le_of_ble_eq_true rfl) (fun x C => ?_)
  refine ax_aload_0 (pc := 0) C dX1_begin_0 ?_
  refine ax_iconst (pc := 1) (v := 0) C dX1_begin_1 (by decide) ?_
  refine ax_putI (pc := 2) C fX1_15 dX1_begin_2 rfl rfl rfl rfl ?_
  refine ax_aload_0 (pc := 5) C dX1_begin_5 ?_
  refine ax_aload_1 (pc := 6) C dX1_begin_6 ?_
  refine ax_iload_2 (pc := 7) C dX1_begin_7 ?_
  refine ax_aload_3 (pc := 8) C dX1_begin_8 ?_
  refine ax_aload_1 (pc := 9) C dX1_begin_9 ?_
  refine ax_getR (pc := 10) C fX1_19 dX1_begin_10 rfl rfl ?_
  refine ax_iload_2 (pc := 13) C dX1_begin_13 ?_
  refine ax_ian (pc := 14) C dX1_begin_14 rfl (by omega) (by omega) ?_
  refine ax_val C (show _ = 5 by rw [up_ne (by decide)]; exact hk) ?_
  refine ax_callNi (pc := 15) C (w_X6_bodyFor_1_5 F hs) kX6_bodyFor mX1_24 dX1_begin_15 (by decide) rfl rfl (Nat.le_of_ble_eq_true rfl) rfl ⟨Nat.le_refl _, Nat.le_refl _⟩ ?_
  refine ax_iconst (pc := 18) (v := 0) C dX1_begin_18 (by decide) ?_
  refine ax_callVi (pc := 19) C (w_X1_answer_14 F (t := 0) (d := 0) hc up_s (by decide) (by decide)) kX1_answer mX1_28 dX1_begin_19 (by decide) rfl rfl rfl rfl rfl (Nat.le_of_ble_eq_true rfl) rfl ⟨Nat.le_refl _, Nat.le_refl _⟩ ?_
  exact ax_ir (pc := 22) C rfl dX1_begin_22 (by rw [up_ne (show (18 : Nat) ≠ 39 by decide)]) rfl

set_option maxRecDepth 20000 in
set_option maxHeartbeats 4000000 in
theorem w_X6_ask_1_5 {Y : ax_Y} {ad : Nat → Nat} (F : ax_F Y) {l : Launch} {σ : ax_Z} {n : Nat} (hn : σ 14 10 = nI n) (h6 : n ≤ 6) {c : Nat} (hc : c < n) (hk : σ 16 c = 5) : ax_m Y ad l iX6_ask 6 σ [.ref (ad 0), .int (nI c), .int 0] (some (.int (2 * (σ 18 c - 100)))) (as_c (ax_up σ 39 1 0) 0 [14, 13, 10]) := by
  obtain ⟨a1, hS1⟩ := ax_St_1 F
  refine ax_m.of F kX6_ask.1 [some (.ref (ad 0)), some (.int (nI c)), some (.int (0))] rfl (Nat.le_of_ble_eq_true rfl) (fun x C => ?_)
  refine ax_aload_0 (pc := 0) C dX6_ask_0 ?_
  refine ax_iload_1 (pc := 1) C dX6_ask_1 ?_
  refine ax_callVi (pc := 2) C (w_X6_isCartN F hn) kX6_isCart mX6_146 dX6_ask_2 (by decide) rfl rfl rfl rfl rfl (Nat.le_of_ble_eq_true rfl) rfl ⟨Nat.le_refl _, Nat.le_refl _⟩ ?_
  refine ax_if_eq (pc := 5) (tgt := 17) C dX6_ask_5 (by decide) (fun z => False.elim (ax_beq z (ax_cq hc (by omega)))) (fun _ => ?_)
  refine ax_iload_2 (pc := 8) C dX6_ask_8 ?_
  refine ax_iconst (pc := 9) (v := 0) C dX6_ask_9 (by decide) ?_
  refine ax_iconst (pc := 10) (v := 1) C dX6_ask_10 (by decide) ?_
  refine ax_callSi (pc := 11) C (w_X6_isWithin F) kX6_isWithin mX6_59 dX6_ask_11 (by decide) rfl rfl (Nat.le_of_ble_eq_true rfl) rfl ⟨Nat.le_refl _, Nat.le_refl _⟩ ?_
  refine ax_if_ne (pc := 14) (tgt := 20) C dX6_ask_14 (by decide) (fun _ => ?_) (fun z => False.elim (ax_beq z (by decide)))
  refine ax_aload_0 (pc := 20) C dX6_ask_20 ?_
  refine ax_getR (pc := 21) C fX6_50 dX6_ask_21 rfl rfl ?_
  refine ax_aload_0 (pc := 24) C dX6_ask_24 ?_
  refine ax_getR (pc := 25) C fX6_25 dX6_ask_25 rfl rfl ?_
  refine ax_iload_1 (pc := 28) C dX6_ask_28 ?_
  refine ax_iload_2 (pc := 29) C dX6_ask_29 ?_
  refine ax_if_ne (pc := 30) (tgt := 39) C dX6_ask_30 (by decide) (fun z => False.elim (absurd z (by decide))) (fun _ => ?_)
  refine ax_gets (pc := 33) C hS1 st_231 dX6_ask_33 ?_
  refine ax_goto (pc := 36) (tgt := 42) C dX6_ask_36 (by decide) ?_
  refine ax_callVi (pc := 42) C (w_X1_begin_1_5 F (by omega) hk hS1) kX1_begin mX6_237 dX6_ask_42 (by decide) rfl rfl rfl rfl rfl (Nat.le_of_ble_eq_true rfl) rfl ⟨Nat.le_refl _, Nat.le_refl _⟩ ?_
  exact ax_ir (pc := 45) C rfl dX6_ask_45 rfl rfl

set_option maxRecDepth 20000 in
set_option maxHeartbeats 4000000 in
theorem w_X1_begin_2_1 {Y : ax_Y} {ad : Nat → Nat} (F : ax_F Y) {l : Launch} {σ : ax_Z} {c a : Nat} (hc : c < 6) (hk : σ 16 c = 1) (hs : ax_St Y 2 a) : ax_m Y ad l iX1_begin 5 σ [.ref (ad 39), .ref (ad 14), .int (nI c), .ref a] (some (.int (nI c + σ 17 c))) (as_c (ax_up σ 39 1 0) 0 [21, 20]) := by
  refine ax_m.of F kX1_begin.1 [some (.ref (ad 39)), some (.ref (ad 14)), some (.int (nI c)), some (.ref a)] rfl (Nat.le_of_ble_eq_true rfl) (fun x C => ?_)
  refine ax_aload_0 (pc := 0) C dX1_begin_0 ?_
  refine ax_iconst (pc := 1) (v := 0) C dX1_begin_1 (by decide) ?_
  refine ax_putI (pc := 2) C fX1_15 dX1_begin_2 rfl rfl rfl rfl ?_
  refine ax_aload_0 (pc := 5) C dX1_begin_5 ?_
  refine ax_aload_1 (pc := 6) C dX1_begin_6 ?_
  refine ax_iload_2 (pc := 7) C dX1_begin_7 ?_
  refine ax_aload_3 (pc := 8) C dX1_begin_8 ?_
  refine ax_aload_1 (pc := 9) C dX1_begin_9 ?_
  refine ax_getR (pc := 10) C fX1_19 dX1_begin_10 rfl rfl ?_
  refine ax_iload_2 (pc := 13) C dX1_begin_13 ?_
  refine ax_ian (pc := 14) C dX1_begin_14 rfl (by omega) (by omega) ?_
  refine ax_val C (show _ = 1 by rw [up_ne (by decide)]; exact hk) ?_
  refine ax_callNi (pc := 15) C (w_X6_bodyFor_2_1 F hs) kX6_bodyFor mX1_24 dX1_begin_15 (by decide) rfl rfl (Nat.le_of_ble_eq_true rfl) rfl ⟨Nat.le_refl _, Nat.le_refl _⟩ ?_
  refine ax_iconst (pc := 18) (v := 0) C dX1_begin_18 (by decide) ?_
  refine ax_callVi (pc := 19) C (w_X1_answer_21 F (t := 0) (d := 0) hc up_s (by decide) (by decide)) kX1_answer mX1_28 dX1_begin_19 (by decide) rfl rfl rfl rfl rfl (Nat.le_of_ble_eq_true rfl) rfl ⟨Nat.le_refl _, Nat.le_refl _⟩ ?_
  exact ax_ir (pc := 22) C rfl dX1_begin_22 (by rw [up_ne (show (17 : Nat) ≠ 39 by decide)]) rfl

set_option maxRecDepth 20000 in
set_option maxHeartbeats 4000000 in
theorem w_X6_ask_2_1 {Y : ax_Y} {ad : Nat → Nat} (F : ax_F Y) {l : Launch} {σ : ax_Z} {n : Nat} (hn : σ 14 10 = nI n) (h6 : n ≤ 6) {c : Nat} (hc : c < n) (hk : σ 16 c = 1) : ax_m Y ad l iX6_ask 6 σ [.ref (ad 0), .int (nI c), .int 1] (some (.int (nI c + σ 17 c))) (as_c (ax_up σ 39 1 0) 0 [21, 20]) := by
  obtain ⟨a2, hS2⟩ := ax_St_2 F
  refine ax_m.of F kX6_ask.1 [some (.ref (ad 0)), some (.int (nI c)), some (.int (1))] rfl (Nat.le_of_ble_eq_true rfl) (fun x C => ?_)
  refine ax_aload_0 (pc := 0) C dX6_ask_0 ?_
  refine ax_iload_1 (pc := 1) C dX6_ask_1 ?_
  refine ax_callVi (pc := 2) C (w_X6_isCartN F hn) kX6_isCart mX6_146 dX6_ask_2 (by decide) rfl rfl rfl rfl rfl (Nat.le_of_ble_eq_true rfl) rfl ⟨Nat.le_refl _, Nat.le_refl _⟩ ?_
  refine ax_if_eq (pc := 5) (tgt := 17) C dX6_ask_5 (by decide) (fun z => False.elim (ax_beq z (ax_cq hc (by omega)))) (fun _ => ?_)
  refine ax_iload_2 (pc := 8) C dX6_ask_8 ?_
  refine ax_iconst (pc := 9) (v := 0) C dX6_ask_9 (by decide) ?_
  refine ax_iconst (pc := 10) (v := 1) C dX6_ask_10 (by decide) ?_
  refine ax_callSi (pc := 11) C (w_X6_isWithin F) kX6_isWithin mX6_59 dX6_ask_11 (by decide) rfl rfl (Nat.le_of_ble_eq_true rfl) rfl ⟨Nat.le_refl _, Nat.le_refl _⟩ ?_
  refine ax_if_ne (pc := 14) (tgt := 20) C dX6_ask_14 (by decide) (fun _ => ?_) (fun z => False.elim (ax_beq z (by decide)))
  refine ax_aload_0 (pc := 20) C dX6_ask_20 ?_
  refine ax_getR (pc := 21) C fX6_50 dX6_ask_21 rfl rfl ?_
  refine ax_aload_0 (pc := 24) C dX6_ask_24 ?_
  refine ax_getR (pc := 25) C fX6_25 dX6_ask_25 rfl rfl ?_
  refine ax_iload_1 (pc := 28) C dX6_ask_28 ?_
  refine ax_iload_2 (pc := 29) C dX6_ask_29 ?_
  refine ax_if_ne (pc := 30) (tgt := 39) C dX6_ask_30 (by decide) (fun _ => ?_) (fun z => False.elim (absurd z (by decide)))
  refine ax_gets (pc := 39) C hS2 st_234 dX6_ask_39 ?_
  refine ax_callVi (pc := 42) C (w_X1_begin_2_1 F (by omega) hk hS2) kX1_begin mX6_237 dX6_ask_42 (by decide) rfl rfl rfl rfl rfl (Nat.le_of_ble_eq_true rfl) rfl ⟨Nat.le_refl _, Nat.le_refl _⟩ ?_
  exact ax_ir (pc := 45) C rfl dX6_ask_45 rfl rfl

set_option maxRecDepth 20000 in
set_option maxHeartbeats 4000000 in
theorem w_X1_begin_2_2 {Y : ax_Y} {ad : Nat → Nat} (F : ax_F Y) {l : Launch} {σ : ax_Z} {c a : Nat} (hc : c < 6) (hk : σ 16 c = 2) (hs : ax_St Y 2 a) : ax_m Y ad l iX1_begin 5 σ [.ref (ad 39), .ref (ad 14), .int (nI c), .ref a] (some (.int (2 * (nI c + σ 17 c)))) (as_c (ax_up σ 39 1 0) 0 [24, 21, 20]) := by
  refine ax_m.of F kX1_begin.1 [some (.ref (ad 39)), some (.ref (ad 14)), some (.int (nI c)), some (.ref a)] rfl (Nat.le_of_ble_eq_true rfl) (fun x C => ?_)
  refine ax_aload_0 (pc := 0) C dX1_begin_0 ?_
  refine ax_iconst (pc := 1) (v := 0) C dX1_begin_1 (by decide) ?_
  refine ax_putI (pc := 2) C fX1_15 dX1_begin_2 rfl rfl rfl rfl ?_
  refine ax_aload_0 (pc := 5) C dX1_begin_5 ?_
  refine ax_aload_1 (pc := 6) C dX1_begin_6 ?_
  refine ax_iload_2 (pc := 7) C dX1_begin_7 ?_
  refine ax_aload_3 (pc := 8) C dX1_begin_8 ?_
  refine ax_aload_1 (pc := 9) C dX1_begin_9 ?_
  refine ax_getR (pc := 10) C fX1_19 dX1_begin_10 rfl rfl ?_
  refine ax_iload_2 (pc := 13) C dX1_begin_13 ?_
  refine ax_ian (pc := 14) C dX1_begin_14 rfl (by omega) (by omega) ?_
  refine ax_val C (show _ = 2 by rw [up_ne (by decide)]; exact hk) ?_
  refine ax_callNi (pc := 15) C (w_X6_bodyFor_2_2 F hs) kX6_bodyFor mX1_24 dX1_begin_15 (by decide) rfl rfl (Nat.le_of_ble_eq_true rfl) rfl ⟨Nat.le_refl _, Nat.le_refl _⟩ ?_
  refine ax_iconst (pc := 18) (v := 0) C dX1_begin_18 (by decide) ?_
  refine ax_callVi (pc := 19) C (w_X1_answer_24 F (t := 0) (d := 0) hc up_s (by decide) (by decide)) kX1_answer mX1_28 dX1_begin_19 (by decide) rfl rfl rfl rfl rfl (Nat.le_of_ble_eq_true rfl) rfl ⟨Nat.le_refl _, Nat.le_refl _⟩ ?_
  exact ax_ir (pc := 22) C rfl dX1_begin_22 (by rw [up_ne (show (17 : Nat) ≠ 39 by decide)]) rfl

set_option maxRecDepth 20000 in
set_option maxHeartbeats 4000000 in
theorem w_X6_ask_2_2 {Y : ax_Y} {ad : Nat → Nat} (F : ax_F Y) {l : Launch} {σ : ax_Z} {n : Nat} (hn : σ 14 10 = nI n) (h6 : n ≤ 6) {c : Nat} (hc : c < n) (hk : σ 16 c = 2) : ax_m Y ad l iX6_ask 6 σ [.ref (ad 0), .int (nI c), .int 1] (some (.int (2 * (nI c + σ 17 c)))) (as_c (ax_up σ 39 1 0) 0 [24, 21, 20]) := by
  obtain ⟨a2, hS2⟩ := ax_St_2 F
  refine ax_m.of F kX6_ask.1 [some (.ref (ad 0)), some (.int (nI c)), some (.int (1))] rfl (Nat.le_of_ble_eq_true rfl) (fun x C => ?_)
  refine ax_aload_0 (pc := 0) C dX6_ask_0 ?_
  refine ax_iload_1 (pc := 1) C dX6_ask_1 ?_
  refine ax_callVi (pc := 2) C (w_X6_isCartN F hn) kX6_isCart mX6_146 dX6_ask_2 (by decide) rfl rfl rfl rfl rfl (Nat.le_of_ble_eq_true rfl) rfl ⟨Nat.le_refl _, Nat.le_refl _⟩ ?_
  refine ax_if_eq (pc := 5) (tgt := 17) C dX6_ask_5 (by decide) (fun z => False.elim (ax_beq z (ax_cq hc (by omega)))) (fun _ => ?_)
  refine ax_iload_2 (pc := 8) C dX6_ask_8 ?_
  refine ax_iconst (pc := 9) (v := 0) C dX6_ask_9 (by decide) ?_
  refine ax_iconst (pc := 10) (v := 1) C dX6_ask_10 (by decide) ?_
  refine ax_callSi (pc := 11) C (w_X6_isWithin F) kX6_isWithin mX6_59 dX6_ask_11 (by decide) rfl rfl (Nat.le_of_ble_eq_true rfl) rfl ⟨Nat.le_refl _, Nat.le_refl _⟩ ?_
  refine ax_if_ne (pc := 14) (tgt := 20) C dX6_ask_14 (by decide) (fun _ => ?_) (fun z => False.elim (ax_beq z (by decide)))
  refine ax_aload_0 (pc := 20) C dX6_ask_20 ?_
  refine ax_getR (pc := 21) C fX6_50 dX6_ask_21 rfl rfl ?_
  refine ax_aload_0 (pc := 24) C dX6_ask_24 ?_
  refine ax_getR (pc := 25) C fX6_25 dX6_ask_25 rfl rfl ?_
  refine ax_iload_1 (pc := 28) C dX6_ask_28 ?_
  refine ax_iload_2 (pc := 29) C dX6_ask_29 ?_
  refine ax_if_ne (pc := 30) (tgt := 39) C dX6_ask_30 (by decide) (fun _ => ?_) (fun z => False.elim (absurd z (by decide)))
  refine ax_gets (pc := 39) C hS2 st_234 dX6_ask_39 ?_
  refine ax_callVi (pc := 42) C (w_X1_begin_2_2 F (by omega) hk hS2) kX1_begin mX6_237 dX6_ask_42 (by decide) rfl rfl rfl rfl rfl (Nat.le_of_ble_eq_true rfl) rfl ⟨Nat.le_refl _, Nat.le_refl _⟩ ?_
  exact ax_ir (pc := 45) C rfl dX6_ask_45 rfl rfl

set_option maxRecDepth 20000 in
set_option maxHeartbeats 4000000 in
theorem w_X1_begin_2_3 {Y : ax_Y} {ad : Nat → Nat} (F : ax_F Y) {l : Launch} {σ : ax_Z} {c a : Nat} (hc : c < 6) (hk : σ 16 c = 3) (hs : ax_St Y 2 a) : ax_m Y ad l iX1_begin 5 σ [.ref (ad 39), .ref (ad 14), .int (nI c), .ref a] (some (.int (nI c + σ 17 c - 1000))) (as_c (ax_up σ 39 1 0) 0 [22, 21, 20]) := by
  refine ax_m.of F kX1_begin.1 [some (.ref (ad 39)), some (.ref (ad 14)), some (.int (nI c)), some (.ref a)] rfl (Nat.le_of_ble_eq_true rfl) (fun x C => ?_)
  refine ax_aload_0 (pc := 0) C dX1_begin_0 ?_
  refine ax_iconst (pc := 1) (v := 0) C dX1_begin_1 (by decide) ?_
  refine ax_putI (pc := 2) C fX1_15 dX1_begin_2 rfl rfl rfl rfl ?_
  refine ax_aload_0 (pc := 5) C dX1_begin_5 ?_
  refine ax_aload_1 (pc := 6) C dX1_begin_6 ?_
  refine ax_iload_2 (pc := 7) C dX1_begin_7 ?_
  refine ax_aload_3 (pc := 8) C dX1_begin_8 ?_
  refine ax_aload_1 (pc := 9) C dX1_begin_9 ?_
  refine ax_getR (pc := 10) C fX1_19 dX1_begin_10 rfl rfl ?_
  refine ax_iload_2 (pc := 13) C dX1_begin_13 ?_
  refine ax_ian (pc := 14) C dX1_begin_14 rfl (by omega) (by omega) ?_
  refine ax_val C (show _ = 3 by rw [up_ne (by decide)]; exact hk) ?_
  refine ax_callNi (pc := 15) C (w_X6_bodyFor_2_3 F hs) kX6_bodyFor mX1_24 dX1_begin_15 (by decide) rfl rfl (Nat.le_of_ble_eq_true rfl) rfl ⟨Nat.le_refl _, Nat.le_refl _⟩ ?_
  refine ax_iconst (pc := 18) (v := 0) C dX1_begin_18 (by decide) ?_
  refine ax_callVi (pc := 19) C (w_X1_answer_22 F (t := 0) (d := 0) hc up_s (by decide) (by decide)) kX1_answer mX1_28 dX1_begin_19 (by decide) rfl rfl rfl rfl rfl (Nat.le_of_ble_eq_true rfl) rfl ⟨Nat.le_refl _, Nat.le_refl _⟩ ?_
  exact ax_ir (pc := 22) C rfl dX1_begin_22 (by rw [up_ne (show (17 : Nat) ≠ 39 by decide)]) rfl

set_option maxRecDepth 20000 in
set_option maxHeartbeats 4000000 in
theorem w_X6_ask_2_3 {Y : ax_Y} {ad : Nat → Nat} (F : ax_F Y) {l : Launch} {σ : ax_Z} {n : Nat} (hn : σ 14 10 = nI n) (h6 : n ≤ 6) {c : Nat} (hc : c < n) (hk : σ 16 c = 3) : ax_m Y ad l iX6_ask 6 σ [.ref (ad 0), .int (nI c), .int 1] (some (.int (nI c + σ 17 c - 1000))) (as_c (ax_up σ 39 1 0) 0 [22, 21, 20]) := by
  obtain ⟨a2, hS2⟩ := ax_St_2 F
  refine ax_m.of F kX6_ask.1 [some (.ref (ad 0)), some (.int (nI c)), some (.int (1))] rfl (Nat.le_of_ble_eq_true rfl) (fun x C => ?_)
  refine ax_aload_0 (pc := 0) C dX6_ask_0 ?_
  refine ax_iload_1 (pc := 1) C dX6_ask_1 ?_
  refine ax_callVi (pc := 2) C (w_X6_isCartN F hn) kX6_isCart mX6_146 dX6_ask_2 (by decide) rfl rfl rfl rfl rfl (Nat.le_of_ble_eq_true rfl) rfl ⟨Nat.le_refl _, Nat.le_refl _⟩ ?_
  refine ax_if_eq (pc := 5) (tgt := 17) C dX6_ask_5 (by decide) (fun z => False.elim (ax_beq z (ax_cq hc (by omega)))) (fun _ => ?_)
  refine ax_iload_2 (pc := 8) C dX6_ask_8 ?_
  refine ax_iconst (pc := 9) (v := 0) C dX6_ask_9 (by decide) ?_
  refine ax_iconst (pc := 10) (v := 1) C dX6_ask_10 (by decide) ?_
  refine ax_callSi (pc := 11) C (w_X6_isWithin F) kX6_isWithin mX6_59 dX6_ask_11 (by decide) rfl rfl (Nat.le_of_ble_eq_true rfl) rfl ⟨Nat.le_refl _, Nat.le_refl _⟩ ?_
  refine ax_if_ne (pc := 14) (tgt := 20) C dX6_ask_14 (by decide) (fun _ => ?_) (fun z => False.elim (ax_beq z (by decide)))
  refine ax_aload_0 (pc := 20) C dX6_ask_20 ?_
  refine ax_getR (pc := 21) C fX6_50 dX6_ask_21 rfl rfl ?_
  refine ax_aload_0 (pc := 24) C dX6_ask_24 ?_
  refine ax_getR (pc := 25) C fX6_25 dX6_ask_25 rfl rfl ?_
  refine ax_iload_1 (pc := 28) C dX6_ask_28 ?_
  refine ax_iload_2 (pc := 29) C dX6_ask_29 ?_
  refine ax_if_ne (pc := 30) (tgt := 39) C dX6_ask_30 (by decide) (fun _ => ?_) (fun z => False.elim (absurd z (by decide)))
  refine ax_gets (pc := 39) C hS2 st_234 dX6_ask_39 ?_
  refine ax_callVi (pc := 42) C (w_X1_begin_2_3 F (by omega) hk hS2) kX1_begin mX6_237 dX6_ask_42 (by decide) rfl rfl rfl rfl rfl (Nat.le_of_ble_eq_true rfl) rfl ⟨Nat.le_refl _, Nat.le_refl _⟩ ?_
  exact ax_ir (pc := 45) C rfl dX6_ask_45 rfl rfl

set_option maxRecDepth 20000 in
set_option maxHeartbeats 4000000 in
theorem w_X1_begin_2_4 {Y : ax_Y} {ad : Nat → Nat} (F : ax_F Y) {l : Launch} {σ : ax_Z} {c a : Nat} (hc : c < 6) (hk : σ 16 c = 4) (hs : ax_St Y 2 a) : ax_m Y ad l iX1_begin 5 σ [.ref (ad 39), .ref (ad 14), .int (nI c), .ref a] (some (.int (nI c - (σ 18 c - 100)))) (as_c (ax_up σ 39 1 0) 0 [23, 20, 13, 10]) := by
  refine ax_m.of F kX1_begin.1 [some (.ref (ad 39)), some (.ref (ad 14)), some (.int (nI c)), some (.ref a)] rfl (Nat.le_of_ble_eq_true rfl) (fun x C => ?_)
  refine ax_aload_0 (pc := 0) C dX1_begin_0 ?_
  refine ax_iconst (pc := 1) (v := 0) C dX1_begin_1 (by decide) ?_
  refine ax_putI (pc := 2) C fX1_15 dX1_begin_2 rfl rfl rfl rfl ?_
  refine ax_aload_0 (pc := 5) C dX1_begin_5 ?_
  refine ax_aload_1 (pc := 6) C dX1_begin_6 ?_
  refine ax_iload_2 (pc := 7) C dX1_begin_7 ?_
  refine ax_aload_3 (pc := 8) C dX1_begin_8 ?_
  refine ax_aload_1 (pc := 9) C dX1_begin_9 ?_
  refine ax_getR (pc := 10) C fX1_19 dX1_begin_10 rfl rfl ?_
  refine ax_iload_2 (pc := 13) C dX1_begin_13 ?_
  refine ax_ian (pc := 14) C dX1_begin_14 rfl (by omega) (by omega) ?_
  refine ax_val C (show _ = 4 by rw [up_ne (by decide)]; exact hk) ?_
  refine ax_callNi (pc := 15) C (w_X6_bodyFor_2_4 F hs) kX6_bodyFor mX1_24 dX1_begin_15 (by decide) rfl rfl (Nat.le_of_ble_eq_true rfl) rfl ⟨Nat.le_refl _, Nat.le_refl _⟩ ?_
  refine ax_iconst (pc := 18) (v := 0) C dX1_begin_18 (by decide) ?_
  refine ax_callVi (pc := 19) C (w_X1_answer_23_4 F (t := 0) (d := 0) hc up_s (by decide) (by decide) (by rw [up_ne (by decide)]; exact hk)) kX1_answer mX1_28 dX1_begin_19 (by decide) rfl rfl rfl rfl rfl (Nat.le_of_ble_eq_true rfl) rfl ⟨Nat.le_refl _, Nat.le_refl _⟩ ?_
  exact ax_ir (pc := 22) C rfl dX1_begin_22 (by rw [up_ne (show (18 : Nat) ≠ 39 by decide)]) rfl

set_option maxRecDepth 20000 in
set_option maxHeartbeats 4000000 in
theorem w_X6_ask_2_4 {Y : ax_Y} {ad : Nat → Nat} (F : ax_F Y) {l : Launch} {σ : ax_Z} {n : Nat} (hn : σ 14 10 = nI n) (h6 : n ≤ 6) {c : Nat} (hc : c < n) (hk : σ 16 c = 4) : ax_m Y ad l iX6_ask 6 σ [.ref (ad 0), .int (nI c), .int 1] (some (.int (nI c - (σ 18 c - 100)))) (as_c (ax_up σ 39 1 0) 0 [23, 20, 13, 10]) := by
  obtain ⟨a2, hS2⟩ := ax_St_2 F
  refine ax_m.of F kX6_ask.1 [some (.ref (ad 0)), some (.int (nI c)), some (.int (1))] rfl (Nat.le_of_ble_eq_true rfl) (fun x C => ?_)
  refine ax_aload_0 (pc := 0) C dX6_ask_0 ?_
  refine ax_iload_1 (pc := 1) C dX6_ask_1 ?_
  refine ax_callVi (pc := 2) C (w_X6_isCartN F hn) kX6_isCart mX6_146 dX6_ask_2 (by decide) rfl rfl rfl rfl rfl (Nat.le_of_ble_eq_true rfl) rfl ⟨Nat.le_refl _, Nat.le_refl _⟩ ?_
  refine ax_if_eq (pc := 5) (tgt := 17) C dX6_ask_5 (by decide) (fun z => False.elim (ax_beq z (ax_cq hc (by omega)))) (fun _ => ?_)
  refine ax_iload_2 (pc := 8) C dX6_ask_8 ?_
  refine ax_iconst (pc := 9) (v := 0) C dX6_ask_9 (by decide) ?_
  refine ax_iconst (pc := 10) (v := 1) C dX6_ask_10 (by decide) ?_
  refine ax_callSi (pc := 11) C (w_X6_isWithin F) kX6_isWithin mX6_59 dX6_ask_11 (by decide) rfl rfl (Nat.le_of_ble_eq_true rfl) rfl ⟨Nat.le_refl _, Nat.le_refl _⟩ ?_
  refine ax_if_ne (pc := 14) (tgt := 20) C dX6_ask_14 (by decide) (fun _ => ?_) (fun z => False.elim (ax_beq z (by decide)))
  refine ax_aload_0 (pc := 20) C dX6_ask_20 ?_
  refine ax_getR (pc := 21) C fX6_50 dX6_ask_21 rfl rfl ?_
  refine ax_aload_0 (pc := 24) C dX6_ask_24 ?_
  refine ax_getR (pc := 25) C fX6_25 dX6_ask_25 rfl rfl ?_
  refine ax_iload_1 (pc := 28) C dX6_ask_28 ?_
  refine ax_iload_2 (pc := 29) C dX6_ask_29 ?_
  refine ax_if_ne (pc := 30) (tgt := 39) C dX6_ask_30 (by decide) (fun _ => ?_) (fun z => False.elim (absurd z (by decide)))
  refine ax_gets (pc := 39) C hS2 st_234 dX6_ask_39 ?_
  refine ax_callVi (pc := 42) C (w_X1_begin_2_4 F (by omega) hk hS2) kX1_begin mX6_237 dX6_ask_42 (by decide) rfl rfl rfl rfl rfl (Nat.le_of_ble_eq_true rfl) rfl ⟨Nat.le_refl _, Nat.le_refl _⟩ ?_
  exact ax_ir (pc := 45) C rfl dX6_ask_45 rfl rfl

set_option maxRecDepth 20000 in
set_option maxHeartbeats 4000000 in
theorem w_X1_begin_2_5 {Y : ax_Y} {ad : Nat → Nat} (F : ax_F Y) {l : Launch} {σ : ax_Z} {c a : Nat} (hc : c < 6) (hk : σ 16 c = 5) (hs : ax_St Y 2 a) : ax_m Y ad l iX1_begin 5 σ [.ref (ad 39), .ref (ad 14), .int (nI c), .ref a] (some (.int (nI c - 2 * (σ 18 c - 100)))) (as_c (ax_up σ 39 1 0) 0 [23, 20, 14, 13, 10]) := by
  refine ax_m.of F kX1_begin.1 [some (.ref (ad 39)), some (.ref (ad 14)), some (.int (nI c)), some (.ref a)] rfl (Nat.le_of_ble_eq_true rfl) (fun x C => ?_)
  refine ax_aload_0 (pc := 0) C dX1_begin_0 ?_
  refine ax_iconst (pc := 1) (v := 0) C dX1_begin_1 (by decide) ?_
  refine ax_putI (pc := 2) C fX1_15 dX1_begin_2 rfl rfl rfl rfl ?_
  refine ax_aload_0 (pc := 5) C dX1_begin_5 ?_
  refine ax_aload_1 (pc := 6) C dX1_begin_6 ?_
  refine ax_iload_2 (pc := 7) C dX1_begin_7 ?_
  refine ax_aload_3 (pc := 8) C dX1_begin_8 ?_
  refine ax_aload_1 (pc := 9) C dX1_begin_9 ?_
  refine ax_getR (pc := 10) C fX1_19 dX1_begin_10 rfl rfl ?_
  refine ax_iload_2 (pc := 13) C dX1_begin_13 ?_
  refine ax_ian (pc := 14) C dX1_begin_14 rfl (by omega) (by omega) ?_
  refine ax_val C (show _ = 5 by rw [up_ne (by decide)]; exact hk) ?_
  refine ax_callNi (pc := 15) C (w_X6_bodyFor_2_5 F hs) kX6_bodyFor mX1_24 dX1_begin_15 (by decide) rfl rfl (Nat.le_of_ble_eq_true rfl) rfl ⟨Nat.le_refl _, Nat.le_refl _⟩ ?_
  refine ax_iconst (pc := 18) (v := 0) C dX1_begin_18 (by decide) ?_
  refine ax_callVi (pc := 19) C (w_X1_answer_23_5 F (t := 0) (d := 0) hc up_s (by decide) (by decide) (by rw [up_ne (by decide)]; exact hk)) kX1_answer mX1_28 dX1_begin_19 (by decide) rfl rfl rfl rfl rfl (Nat.le_of_ble_eq_true rfl) rfl ⟨Nat.le_refl _, Nat.le_refl _⟩ ?_
  exact ax_ir (pc := 22) C rfl dX1_begin_22 (by rw [up_ne (show (18 : Nat) ≠ 39 by decide)]) rfl

set_option maxRecDepth 20000 in
set_option maxHeartbeats 4000000 in
theorem w_X6_ask_2_5 {Y : ax_Y} {ad : Nat → Nat} (F : ax_F Y) {l : Launch} {σ : ax_Z} {n : Nat} (hn : σ 14 10 = nI n) (h6 : n ≤ 6) {c : Nat} (hc : c < n) (hk : σ 16 c = 5) : ax_m Y ad l iX6_ask 6 σ [.ref (ad 0), .int (nI c), .int 1] (some (.int (nI c - 2 * (σ 18 c - 100)))) (as_c (ax_up σ 39 1 0) 0 [23, 20, 14, 13, 10]) := by
  obtain ⟨a2, hS2⟩ := ax_St_2 F
  refine ax_m.of F kX6_ask.1 [some (.ref (ad 0)), some (.int (nI c)), some (.int (1))] rfl (Nat.le_of_ble_eq_true rfl) (fun x C => ?_)
  refine ax_aload_0 (pc := 0) C dX6_ask_0 ?_
  refine ax_iload_1 (pc := 1) C dX6_ask_1 ?_
  refine ax_callVi (pc := 2) C (w_X6_isCartN F hn) kX6_isCart mX6_146 dX6_ask_2 (by decide) rfl rfl rfl rfl rfl (Nat.le_of_ble_eq_true rfl) rfl ⟨Nat.le_refl _, Nat.le_refl _⟩ ?_
  refine ax_if_eq (pc := 5) (tgt := 17) C dX6_ask_5 (by decide) (fun z => False.elim (ax_beq z (ax_cq hc (by omega)))) (fun _ => ?_)
  refine ax_iload_2 (pc := 8) C dX6_ask_8 ?_
  refine ax_iconst (pc := 9) (v := 0) C dX6_ask_9 (by decide) ?_
  refine ax_iconst (pc := 10) (v := 1) C dX6_ask_10 (by decide) ?_
  refine ax_callSi (pc := 11) C (w_X6_isWithin F) kX6_isWithin mX6_59 dX6_ask_11 (by decide) rfl rfl (Nat.le_of_ble_eq_true rfl) rfl ⟨Nat.le_refl _, Nat.le_refl _⟩ ?_
  refine ax_if_ne (pc := 14) (tgt := 20) C dX6_ask_14 (by decide) (fun _ => ?_) (fun z => False.elim (ax_beq z (by decide)))
  refine ax_aload_0 (pc := 20) C dX6_ask_20 ?_
  refine ax_getR (pc := 21) C fX6_50 dX6_ask_21 rfl rfl ?_
  refine ax_aload_0 (pc := 24) C dX6_ask_24 ?_
  refine ax_getR (pc := 25) C fX6_25 dX6_ask_25 rfl rfl ?_
  refine ax_iload_1 (pc := 28) C dX6_ask_28 ?_
  refine ax_iload_2 (pc := 29) C dX6_ask_29 ?_
  refine ax_if_ne (pc := 30) (tgt := 39) C dX6_ask_30 (by decide) (fun _ => ?_) (fun z => False.elim (absurd z (by decide)))
  refine ax_gets (pc := 39) C hS2 st_234 dX6_ask_39 ?_
  refine ax_callVi (pc := 42) C (w_X1_begin_2_5 F (by omega) hk hS2) kX1_begin mX6_237 dX6_ask_42 (by decide) rfl rfl rfl rfl rfl (Nat.le_of_ble_eq_true rfl) rfl ⟨Nat.le_refl _, Nat.le_refl _⟩ ?_
  exact ax_ir (pc := 45) C rfl dX6_ask_45 rfl rfl

set_option maxRecDepth 20000 in
set_option maxHeartbeats 4000000 in
theorem w_X6_ask_b {Y : ax_Y} {ad : Nat → Nat} (F : ax_F Y) {l : Launch} {σ : ax_Z} {n : Nat} (hn : σ 14 10 = nI n) (h6 : n ≤ 6) {cart k : Int32} (hb : ¬ ((0 ≤ cart ∧ cart ≤ nI n - 1) ∧ (0 ≤ k ∧ k ≤ 1))) : ax_m Y ad l iX6_ask 6 σ [.ref (ad 0), .int cart, .int k] (some (.int (-1000001))) σ := by
  refine ax_m.of F kX6_ask.1 [some (.ref (ad 0)), some (.int (cart)), some (.int (k))] rfl (Nat.le_of_ble_eq_true rfl) (fun x C => ?_)
  refine ax_aload_0 (pc := 0) C dX6_ask_0 ?_
  refine ax_iload_1 (pc := 1) C dX6_ask_1 ?_
  refine ax_callVi (pc := 2) C (w_X6_isCartN F hn) kX6_isCart mX6_146 dX6_ask_2 (by decide) rfl rfl rfl rfl rfl (Nat.le_of_ble_eq_true rfl) rfl ⟨Nat.le_refl _, Nat.le_refl _⟩ ?_
  refine ax_if_eq (pc := 5) (tgt := 17) C dX6_ask_5 (by decide) (fun h5 => ?_) (fun h5 => ?_)
  · have h5 := ax_beq h5
    refine ax_ldc (pc := 17) C dX6_ask_17 qX6_63 ?_
    exact ax_ir (pc := 19) C rfl dX6_ask_19 rfl rfl
  · have h5 := ax_bne h5
    refine ax_iload_2 (pc := 8) C dX6_ask_8 ?_
    refine ax_iconst (pc := 9) (v := 0) C dX6_ask_9 (by decide) ?_
    refine ax_iconst (pc := 10) (v := 1) C dX6_ask_10 (by decide) ?_
    refine ax_callSi (pc := 11) C (w_X6_isWithin F) kX6_isWithin mX6_59 dX6_ask_11 (by decide) rfl rfl (Nat.le_of_ble_eq_true rfl) rfl ⟨Nat.le_refl _, Nat.le_refl _⟩ ?_
    refine ax_if_ne (pc := 14) (tgt := 20) C dX6_ask_14 (by decide) (fun h14 => ?_) (fun h14 => ?_)
    · have h14 := ax_bne h14
      exact absurd ⟨h5, h14⟩ hb
    · have h14 := ax_beq h14
      refine ax_ldc (pc := 17) C dX6_ask_17 qX6_63 ?_
      exact ax_ir (pc := 19) C rfl dX6_ask_19 rfl rfl

set_option maxRecDepth 20000 in
set_option maxHeartbeats 4000000 in
theorem w_X6_as {Y : ax_Y} {ad : Nat → Nat} (F : ax_F Y) {l : Launch} {σ : ax_Z} {n : Nat} (hn : σ 14 10 = nI n) (h6 : n ≤ 6) {kf : Nat → Nat} (hkf : ∀ c, c < n → σ 16 c = nI (kf c) ∧ 1 ≤ kf c ∧ kf c ≤ 5) {cart k : Int32} : ax_m Y ad l iX6_as 2 σ [.ref (ad 0), .int cart, .int k] (some (.int (if (0 ≤ cart ∧ cart ≤ nI n - 1) ∧ (0 ≤ k ∧ k ≤ 5) then (if (kd_is (kf cart.toNatClampNeg) k.toNatClampNeg = true) then cart else -1000010 - 3) else -1000001))) (if (0 ≤ cart ∧ cart ≤ nI n - 1) ∧ (0 ≤ k ∧ k ≤ 5) then (if (kd_is (kf cart.toNatClampNeg) k.toNatClampNeg = true) then ax_up σ 0 8 0 else ax_up σ 0 8 3) else σ) := by
  refine ax_m.of F kX6_as.1 [some (.ref (ad 0)), some (.int (cart)), some (.int (k))] rfl (Nat.le_of_ble_eq_true rfl) (fun x C => ?_)
  refine ax_aload_0 (pc := 0) C dX6_as_0 ?_
  refine ax_iload_1 (pc := 1) C dX6_as_1 ?_
  refine ax_callVi (pc := 2) C (w_X6_isCartN F hn) kX6_isCart mX6_146 dX6_as_2 (by decide) rfl rfl rfl rfl rfl (Nat.le_of_ble_eq_true rfl) rfl ⟨Nat.le_refl _, Nat.le_refl _⟩ ?_
  refine ax_if_eq (pc := 5) (tgt := 17) C dX6_as_5 (by decide) (fun h5 => ?_) (fun h5 => ?_)
  · have h5 := ax_beq h5
    refine ax_ldc (pc := 17) C dX6_as_17 qX6_63 ?_
    exact ax_ir (pc := 19) C rfl dX6_as_19 (by first | with_reducible rfl | (simp only [h5, if_true, if_false, true_and, and_true, false_and, and_false, not_false_eq_true, not_true_eq_false]; done) | (simp only [h5, if_true, if_false, true_and, and_true, false_and, and_false, not_false_eq_true, not_true_eq_false]; with_reducible rfl)) (by first | with_reducible rfl | (simp only [h5, if_true, if_false, true_and, and_true, false_and, and_false, not_false_eq_true, not_true_eq_false]; done) | (simp only [h5, if_true, if_false, true_and, and_true, false_and, and_false, not_false_eq_true, not_true_eq_false]; with_reducible rfl))
  · have h5 := ax_bne h5
    refine ax_iload_2 (pc := 8) C dX6_as_8 ?_
    refine ax_iconst (pc := 9) (v := 0) C dX6_as_9 (by decide) ?_
    refine ax_iconst (pc := 10) (v := 5) C dX6_as_10 (by decide) ?_
    refine ax_callSi (pc := 11) C (w_X6_isWithin F) kX6_isWithin mX6_59 dX6_as_11 (by decide) rfl rfl (Nat.le_of_ble_eq_true rfl) rfl ⟨Nat.le_refl _, Nat.le_refl _⟩ ?_
    refine ax_if_ne (pc := 14) (tgt := 20) C dX6_as_14 (by decide) (fun h14 => ?_) (fun h14 => ?_)
    · have h14 := ax_bne h14
      obtain ⟨c, hc, rfl⟩ := ax_ixN (by omega) h5
      have ec : (nI c).toNatClampNeg = c := nI_clamp (by omega)
      obtain ⟨m, hm, rfl⟩ := ax_ix (m := 5) (by decide) h14
      have em : (nI m).toNatClampNeg = m := nI_clamp (by omega)
      refine ax_aload_0 (pc := 20) C dX6_as_20 ?_
      refine ax_getR (pc := 21) C fX6_25 dX6_as_21 rfl rfl ?_
      refine ax_getR (pc := 24) C fX6_225 dX6_as_24 rfl rfl ?_
      refine ax_iload_1 (pc := 27) C dX6_as_27 ?_
      refine ax_ian (pc := 28) C dX6_as_28 rfl (by omega) (by omega) ?_
      refine ax_val C (hkf c hc).1 ?_
      refine ax_iload_2 (pc := 29) C dX6_as_29 ?_
      refine ax_callSi (pc := 30) C (w_X6_isOfKind F (hkf c hc).2.1 (hkf c hc).2.2 hm) kX6_isOfKind mX6_228 dX6_as_30 (by decide) rfl rfl (Nat.le_of_ble_eq_true rfl) rfl ⟨Nat.le_refl _, Nat.le_refl _⟩ ?_
      refine ax_if_ne (pc := 33) (tgt := 42) C dX6_as_33 (by decide) (fun h33 => ?_) (fun h33 => ?_)
      · have h33 := ax_bne h33
        refine ax_aload_0 (pc := 42) C dX6_as_42 ?_
        refine ax_iconst (pc := 43) (v := 0) C dX6_as_43 (by decide) ?_
        refine ax_putI (pc := 44) C fX6_72 dX6_as_44 rfl rfl rfl rfl ?_
        refine ax_iload_1 (pc := 47) C dX6_as_47 ?_
        exact ax_ir (pc := 48) C rfl dX6_as_48 (by first | with_reducible rfl | (simp only [h5, h14, h33, if_true, if_false, true_and, and_true, false_and, and_false, not_false_eq_true, not_true_eq_false, ec, em, Bool.false_eq_true]; done) | (simp only [h5, h14, h33, if_true, if_false, true_and, and_true, false_and, and_false, not_false_eq_true, not_true_eq_false, ec, em, Bool.false_eq_true]; with_reducible rfl)) (by first | with_reducible rfl | (simp only [h5, h14, h33, if_true, if_false, true_and, and_true, false_and, and_false, not_false_eq_true, not_true_eq_false, ec, em, Bool.false_eq_true]; done) | (simp only [h5, h14, h33, if_true, if_false, true_and, and_true, false_and, and_false, not_false_eq_true, not_true_eq_false, ec, em, Bool.false_eq_true]; with_reducible rfl))
      · have h33 := ax_beq h33
        refine ax_aload_0 (pc := 36) C dX6_as_36 ?_
        refine ax_iconst (pc := 37) (v := 3) C dX6_as_37 (by decide) ?_
        refine ax_callVi (pc := 38) C (w_X6_found F) kX6_found mX6_64 dX6_as_38 (by decide) rfl rfl rfl rfl rfl (Nat.le_of_ble_eq_true rfl) rfl ⟨Nat.le_refl _, Nat.le_refl _⟩ ?_
        exact ax_ir (pc := 41) C rfl dX6_as_41 (by first | with_reducible rfl | (simp only [h5, h14, h33, if_true, if_false, true_and, and_true, false_and, and_false, not_false_eq_true, not_true_eq_false, ec, em, Bool.false_eq_true]; done) | (simp only [h5, h14, h33, if_true, if_false, true_and, and_true, false_and, and_false, not_false_eq_true, not_true_eq_false, ec, em, Bool.false_eq_true]; with_reducible rfl)) (by first | with_reducible rfl | (simp only [h5, h14, h33, if_true, if_false, true_and, and_true, false_and, and_false, not_false_eq_true, not_true_eq_false, ec, em, Bool.false_eq_true]; done) | (simp only [h5, h14, h33, if_true, if_false, true_and, and_true, false_and, and_false, not_false_eq_true, not_true_eq_false, ec, em, Bool.false_eq_true]; with_reducible rfl))
    · have h14 := ax_beq h14
      refine ax_ldc (pc := 17) C dX6_as_17 qX6_63 ?_
      exact ax_ir (pc := 19) C rfl dX6_as_19 (by first | with_reducible rfl | (simp only [h5, h14, if_true, if_false, true_and, and_true, false_and, and_false, not_false_eq_true, not_true_eq_false]; done) | (simp only [h5, h14, if_true, if_false, true_and, and_true, false_and, and_false, not_false_eq_true, not_true_eq_false]; with_reducible rfl)) (by first | with_reducible rfl | (simp only [h5, h14, if_true, if_false, true_and, and_true, false_and, and_false, not_false_eq_true, not_true_eq_false]; done) | (simp only [h5, h14, if_true, if_false, true_and, and_true, false_and, and_false, not_false_eq_true, not_true_eq_false]; with_reducible rfl))
