/-! the reference's bodies begin: the trace -/
def mp_p (σ : ax_Z) (t : Nat) (b : Int32) : ax_Z := ax_up (ax_up σ 95 t b) 77 34 (nI (t + 1))
def mp_c (σ : ax_Z) : Nat → List Int32 → ax_Z
  | _, [] => σ
  | t, b :: bs => mp_c (mp_p σ t b) (t + 1) bs
theorem mp_81 {σ : ax_Z} {t : Nat} {b : Int32} : mp_p σ t b 81 = σ 81 := by
  unfold mp_p
  rw [up_ne (by decide), up_ne (by decide)]
theorem mp_l {σ : ax_Z} {t : Nat} {b : Int32} : mp_p σ t b 77 34 = nI (t + 1) := up_s

set_option maxRecDepth 20000 in
set_option maxHeartbeats 4000000 in
theorem w_X7_began {Y : ax_Y} {ad : Nat → Nat} (F : ax_F Y) {l : Launch} {σ : ax_Z} {t : Nat} (ht : σ 77 34 = nI t) (h16 : t < 16) {b : Int32} : ax_m Y ad l iX7_began 0 σ [.ref (ad 77), .int b] none (mp_p σ t b) := by
  refine ax_m.of F kX7_began.1 [some (.ref (ad 77)), some (.int (b))] rfl (Nat.le_of_ble_eq_true rfl) (fun x C => ?_)
  refine ax_aload_0 (pc := 0) C dX7_began_0 ?_
  refine ax_getI (pc := 1) C fX7_269 dX7_began_1 rfl rfl ?_
  refine ax_bipush (pc := 4) (v := 16) C dX7_began_4 (by decide) ?_
  refine ax_icmp_ge (pc := 6) (tgt := 29) C dX7_began_6 (by decide) (fun z => False.elim (nI_ge (a := t) (b := 16) h16 (by decide) (by rw [← ht]; exact z))) (fun _ => ?_)
  refine ax_aload_0 (pc := 9) C dX7_began_9 ?_
  refine ax_getR (pc := 10) C fX7_62 dX7_began_10 rfl rfl ?_
  refine ax_aload_0 (pc := 13) C dX7_began_13 ?_
  refine ax_getI (pc := 14) C fX7_269 dX7_began_14 rfl rfl ?_
  refine ax_iload_1 (pc := 17) C dX7_began_17 ?_
  refine ax_ise (pc := 18) (c := t) C dX7_began_18 rfl ht (by omega) (by decide) ?_
  refine ax_aload_0 (pc := 19) C dX7_began_19 ?_
  refine ax_dup (pc := 20) C dX7_began_20 rfl ?_
  refine ax_getI (pc := 21) C fX7_269 dX7_began_21 rfl rfl ?_
  refine ax_val C (show _ = nI t by rw [up_ne (by decide)]; exact ht) ?_
  refine ax_iconst (pc := 24) (v := 1) C dX7_began_24 (by decide) ?_
  refine ax_iadd (pc := 25) C dX7_began_25 ?_
  refine ax_val C (nI_1 t) ?_
  refine ax_putI (pc := 26) C fX7_269 dX7_began_26 rfl rfl rfl rfl ?_
  exact ax_vr (pc := 29) C rfl dX7_began_29 rfl

set_option maxRecDepth 20000 in
set_option maxHeartbeats 4000000 in
theorem w_X7_plainSize {Y : ax_Y} {ad : Nat → Nat} (F : ax_F Y) {l : Launch} {σ : ax_Z} {c t : Nat} (hc : c < 6) (ht : σ 77 34 = nI t) (h16 : t + 1 ≤ 16) : ax_m Y ad l iX7_plainSize 1 σ [.ref (ad 77), .int (nI c)] (some (.int (σ 81 (8 + 6 * c + 2)))) (mp_p σ t 10) := by
  refine ax_m.of F kX7_plainSize.1 [some (.ref (ad 77)), some (.int (nI c))] rfl (Nat.le_of_ble_eq_true rfl) (fun x C => ?_)
  refine ax_aload_0 (pc := 0) C dX7_plainSize_0 ?_
  refine ax_bipush (pc := 1) (v := 10) C dX7_plainSize_1 (by decide) ?_
  refine ax_callVv (pc := 3) C (w_X7_began F (t := t) ht (by omega)) kX7_began mX7_272 dX7_plainSize_3 (by decide) rfl rfl rfl rfl rfl (Nat.le_of_ble_eq_true rfl) rfl ⟨Nat.le_refl _, Nat.le_refl _⟩ ?_
  refine ax_aload_0 (pc := 6) C dX7_plainSize_6 ?_
  refine ax_iload_1 (pc := 7) C dX7_plainSize_7 ?_
  refine ax_iconst (pc := 8) (v := 2) C dX7_plainSize_8 (by decide) ?_
  refine ax_callVi (pc := 9) C (w_X7_of F (k := 2) (by omega) (by decide)) kX7_of mX7_201 dX7_plainSize_9 (by decide) rfl rfl rfl rfl rfl (Nat.le_of_ble_eq_true rfl) rfl ⟨Nat.le_refl _, Nat.le_refl _⟩ ?_
  exact ax_ir (pc := 12) C rfl dX7_plainSize_12 (by simp only [mp_81]) rfl

set_option maxRecDepth 20000 in
set_option maxHeartbeats 4000000 in
theorem w_X7_goSize_4 {Y : ax_Y} {ad : Nat → Nat} (F : ax_F Y) {l : Launch} {σ : ax_Z} {c t : Nat} (hc : c < 6) (ht : σ 77 34 = nI t) (h16 : t + 2 ≤ 16) (hk : σ 81 (8 + 6 * c + 0) = 4) : ax_m Y ad l iX7_goSize 2 σ [.ref (ad 77), .int (nI c)] (some (.int (σ 81 (8 + 6 * c + 2) - 100))) (mp_c σ t [13, 10]) := by
  refine ax_m.of F kX7_goSize.1 [some (.ref (ad 77)), some (.int (nI c)), none] rfl (Nat.le_of_ble_eq_true rfl) (fun x C => ?_)
  refine ax_aload_0 (pc := 0) C dX7_goSize_0 ?_
  refine ax_iload_1 (pc := 1) C dX7_goSize_1 ?_
  refine ax_iconst (pc := 2) (v := 0) C dX7_goSize_2 (by decide) ?_
  refine ax_callVi (pc := 3) C (w_X7_of F (k := 0) (by omega) (by decide)) kX7_of mX7_201 dX7_goSize_3 (by decide) rfl rfl rfl rfl rfl (Nat.le_of_ble_eq_true rfl) rfl ⟨Nat.le_refl _, Nat.le_refl _⟩ ?_
  refine ax_val C (show _ = 4 by (try simp only [mp_81]); exact hk) ?_
  refine ax_iconst (pc := 6) (v := 5) C dX7_goSize_6 (by decide) ?_
  refine ax_icmp_ne (pc := 7) (tgt := 16) C dX7_goSize_7 (by decide) (fun _ => ?_) (fun z => False.elim (absurd z (by decide)))
  refine ax_aload_0 (pc := 16) C dX7_goSize_16 ?_
  refine ax_bipush (pc := 17) (v := 13) C dX7_goSize_17 (by decide) ?_
  refine ax_callVv (pc := 19) C (w_X7_began F (t := t) ht (by omega)) kX7_began mX7_272 dX7_goSize_19 (by decide) rfl rfl rfl rfl rfl (Nat.le_of_ble_eq_true rfl) rfl ⟨Nat.le_refl _, Nat.le_refl _⟩ ?_
  refine ax_aload_0 (pc := 22) C dX7_goSize_22 ?_
  refine ax_iload_1 (pc := 23) C dX7_goSize_23 ?_
  refine ax_callVi (pc := 24) C (w_X7_plainSize F (t := t + 1) (by omega) (by exact mp_l) (by omega)) kX7_plainSize mX7_275 dX7_goSize_24 (by decide) rfl rfl rfl rfl rfl (Nat.le_of_ble_eq_true rfl) rfl ⟨Nat.le_refl _, Nat.le_refl _⟩ ?_
  refine ax_bipush (pc := 27) (v := 100) C dX7_goSize_27 (by decide) ?_
  refine ax_isub (pc := 29) C dX7_goSize_29 ?_
  refine ax_istore_2 (pc := 30) C dX7_goSize_30 rfl ?_
  refine ax_aload_0 (pc := 31) C dX7_goSize_31 ?_
  refine ax_iload_1 (pc := 32) C dX7_goSize_32 ?_
  refine ax_iconst (pc := 33) (v := 0) C dX7_goSize_33 (by decide) ?_
  refine ax_callVi (pc := 34) C (w_X7_of F (k := 0) (by omega) (by decide)) kX7_of mX7_201 dX7_goSize_34 (by decide) rfl rfl rfl rfl rfl (Nat.le_of_ble_eq_true rfl) rfl ⟨Nat.le_refl _, Nat.le_refl _⟩ ?_
  refine ax_val C (show _ = 4 by (try simp only [mp_81]); exact hk) ?_
  refine ax_iconst (pc := 37) (v := 5) C dX7_goSize_37 (by decide) ?_
  refine ax_icmp_ne (pc := 38) (tgt := 47) C dX7_goSize_38 (by decide) (fun _ => ?_) (fun z => False.elim (absurd z (by decide)))
  refine ax_iload_2 (pc := 47) C dX7_goSize_47 ?_
  exact ax_ir (pc := 48) C rfl dX7_goSize_48 (by first | with_reducible rfl | (simp only [mp_81]; done) | (simp only [mp_81]; with_reducible rfl)) rfl

set_option maxRecDepth 20000 in
set_option maxHeartbeats 4000000 in
theorem w_X7_goSize_5 {Y : ax_Y} {ad : Nat → Nat} (F : ax_F Y) {l : Launch} {σ : ax_Z} {c t : Nat} (hc : c < 6) (ht : σ 77 34 = nI t) (h16 : t + 3 ≤ 16) (hk : σ 81 (8 + 6 * c + 0) = 5) : ax_m Y ad l iX7_goSize 2 σ [.ref (ad 77), .int (nI c)] (some (.int (2 * (σ 81 (8 + 6 * c + 2) - 100)))) (mp_c σ t [14, 13, 10]) := by
  refine ax_m.of F kX7_goSize.1 [some (.ref (ad 77)), some (.int (nI c)), none] rfl (Nat.le_of_ble_eq_true rfl) (fun x C => ?_)
  refine ax_aload_0 (pc := 0) C dX7_goSize_0 ?_
  refine ax_iload_1 (pc := 1) C dX7_goSize_1 ?_
  refine ax_iconst (pc := 2) (v := 0) C dX7_goSize_2 (by decide) ?_
  refine ax_callVi (pc := 3) C (w_X7_of F (k := 0) (by omega) (by decide)) kX7_of mX7_201 dX7_goSize_3 (by decide) rfl rfl rfl rfl rfl (Nat.le_of_ble_eq_true rfl) rfl ⟨Nat.le_refl _, Nat.le_refl _⟩ ?_
  refine ax_val C (show _ = 5 by (try simp only [mp_81]); exact hk) ?_
  refine ax_iconst (pc := 6) (v := 5) C dX7_goSize_6 (by decide) ?_
  refine ax_icmp_ne (pc := 7) (tgt := 16) C dX7_goSize_7 (by decide) (fun z => False.elim (absurd z (by decide))) (fun _ => ?_)
  refine ax_aload_0 (pc := 10) C dX7_goSize_10 ?_
  refine ax_bipush (pc := 11) (v := 14) C dX7_goSize_11 (by decide) ?_
  refine ax_callVv (pc := 13) C (w_X7_began F (t := t) ht (by omega)) kX7_began mX7_272 dX7_goSize_13 (by decide) rfl rfl rfl rfl rfl (Nat.le_of_ble_eq_true rfl) rfl ⟨Nat.le_refl _, Nat.le_refl _⟩ ?_
  refine ax_aload_0 (pc := 16) C dX7_goSize_16 ?_
  refine ax_bipush (pc := 17) (v := 13) C dX7_goSize_17 (by decide) ?_
  refine ax_callVv (pc := 19) C (w_X7_began F (t := t + 1) (by exact mp_l) (by omega)) kX7_began mX7_272 dX7_goSize_19 (by decide) rfl rfl rfl rfl rfl (Nat.le_of_ble_eq_true rfl) rfl ⟨Nat.le_refl _, Nat.le_refl _⟩ ?_
  refine ax_aload_0 (pc := 22) C dX7_goSize_22 ?_
  refine ax_iload_1 (pc := 23) C dX7_goSize_23 ?_
  refine ax_callVi (pc := 24) C (w_X7_plainSize F (t := t + 1 + 1) (by omega) (by exact mp_l) (by omega)) kX7_plainSize mX7_275 dX7_goSize_24 (by decide) rfl rfl rfl rfl rfl (Nat.le_of_ble_eq_true rfl) rfl ⟨Nat.le_refl _, Nat.le_refl _⟩ ?_
  refine ax_bipush (pc := 27) (v := 100) C dX7_goSize_27 (by decide) ?_
  refine ax_isub (pc := 29) C dX7_goSize_29 ?_
  refine ax_istore_2 (pc := 30) C dX7_goSize_30 rfl ?_
  refine ax_aload_0 (pc := 31) C dX7_goSize_31 ?_
  refine ax_iload_1 (pc := 32) C dX7_goSize_32 ?_
  refine ax_iconst (pc := 33) (v := 0) C dX7_goSize_33 (by decide) ?_
  refine ax_callVi (pc := 34) C (w_X7_of F (k := 0) (by omega) (by decide)) kX7_of mX7_201 dX7_goSize_34 (by decide) rfl rfl rfl rfl rfl (Nat.le_of_ble_eq_true rfl) rfl ⟨Nat.le_refl _, Nat.le_refl _⟩ ?_
  refine ax_val C (show _ = 5 by (try simp only [mp_81]); exact hk) ?_
  refine ax_iconst (pc := 37) (v := 5) C dX7_goSize_37 (by decide) ?_
  refine ax_icmp_ne (pc := 38) (tgt := 47) C dX7_goSize_38 (by decide) (fun z => False.elim (absurd z (by decide))) (fun _ => ?_)
  refine ax_iconst (pc := 41) (v := 2) C dX7_goSize_41 (by decide) ?_
  refine ax_iload_2 (pc := 42) C dX7_goSize_42 ?_
  refine ax_imul (pc := 43) C dX7_goSize_43 ?_
  refine ax_goto (pc := 44) (tgt := 48) C dX7_goSize_44 (by decide) ?_
  exact ax_ir (pc := 48) C rfl dX7_goSize_48 (by first | with_reducible rfl | (simp only [mp_81]; done) | (simp only [mp_81]; with_reducible rfl)) rfl

set_option maxRecDepth 20000 in
set_option maxHeartbeats 4000000 in
theorem w_X7_markOf_1 {Y : ax_Y} {ad : Nat → Nat} (F : ax_F Y) {l : Launch} {σ : ax_Z} {c t : Nat} (hc : c < 6) (ht : σ 77 34 = nI t) (h16 : t + 2 ≤ 16) (hk : σ 81 (8 + 6 * c + 0) = 1) : ax_m Y ad l iX7_markOf 3 σ [.ref (ad 77), .int (nI c)] (some (.int (nI c + σ 81 (8 + 6 * c + 1)))) (mp_c σ t [21, 20]) := by
  refine ax_m.of F kX7_markOf.1 [some (.ref (ad 77)), some (.int (nI c)), none, none] rfl (Nat.le_of_ble_eq_true rfl) (fun x C => ?_)
  refine ax_aload_0 (pc := 0) C dX7_markOf_0 ?_
  refine ax_iload_1 (pc := 1) C dX7_markOf_1 ?_
  refine ax_iconst (pc := 2) (v := 0) C dX7_markOf_2 (by decide) ?_
  refine ax_callVi (pc := 3) C (w_X7_of F (k := 0) (by omega) (by decide)) kX7_of mX7_201 dX7_markOf_3 (by decide) rfl rfl rfl rfl rfl (Nat.le_of_ble_eq_true rfl) rfl ⟨Nat.le_refl _, Nat.le_refl _⟩ ?_
  refine ax_val C (show _ = 1 by (try simp only [mp_81]); exact hk) ?_
  refine ax_istore_2 (pc := 6) C dX7_markOf_6 rfl ?_
  refine ax_iload_2 (pc := 7) C dX7_markOf_7 ?_
  refine ax_iconst (pc := 8) (v := 4) C dX7_markOf_8 (by decide) ?_
  refine ax_icmp_lt (pc := 9) (tgt := 32) C dX7_markOf_9 (by decide) (fun _ => ?_) (fun z => False.elim (absurd z (by decide)))
  refine ax_iload_2 (pc := 32) C dX7_markOf_32 ?_
  refine ax_iconst (pc := 33) (v := 1) C dX7_markOf_33 (by decide) ?_
  refine ax_icmp_eq (pc := 34) (tgt := 53) C dX7_markOf_34 (by decide) (fun _ => ?_) (fun z => False.elim (absurd z (by decide)))
  refine ax_aload_0 (pc := 53) C dX7_markOf_53 ?_
  refine ax_bipush (pc := 54) (v := 21) C dX7_markOf_54 (by decide) ?_
  refine ax_callVv (pc := 56) C (w_X7_began F (t := t) ht (by omega)) kX7_began mX7_272 dX7_markOf_56 (by decide) rfl rfl rfl rfl rfl (Nat.le_of_ble_eq_true rfl) rfl ⟨Nat.le_refl _, Nat.le_refl _⟩ ?_
  refine ax_aload_0 (pc := 59) C dX7_markOf_59 ?_
  refine ax_bipush (pc := 60) (v := 20) C dX7_markOf_60 (by decide) ?_
  refine ax_callVv (pc := 62) C (w_X7_began F (t := t + 1) (by exact mp_l) (by omega)) kX7_began mX7_272 dX7_markOf_62 (by decide) rfl rfl rfl rfl rfl (Nat.le_of_ble_eq_true rfl) rfl ⟨Nat.le_refl _, Nat.le_refl _⟩ ?_
  refine ax_iload_1 (pc := 65) C dX7_markOf_65 ?_
  refine ax_aload_0 (pc := 66) C dX7_markOf_66 ?_
  refine ax_iload_1 (pc := 67) C dX7_markOf_67 ?_
  refine ax_iconst (pc := 68) (v := 1) C dX7_markOf_68 (by decide) ?_
  refine ax_callVi (pc := 69) C (w_X7_of F (k := 1) (by omega) (by decide)) kX7_of mX7_201 dX7_markOf_69 (by decide) rfl rfl rfl rfl rfl (Nat.le_of_ble_eq_true rfl) rfl ⟨Nat.le_refl _, Nat.le_refl _⟩ ?_
  refine ax_iadd (pc := 72) C dX7_markOf_72 ?_
  refine ax_istore_3 (pc := 73) C dX7_markOf_73 rfl ?_
  refine ax_iload_2 (pc := 74) C dX7_markOf_74 ?_
  refine ax_iconst (pc := 75) (v := 1) C dX7_markOf_75 (by decide) ?_
  refine ax_icmp_ne (pc := 76) (tgt := 83) C dX7_markOf_76 (by decide) (fun z => False.elim (absurd z (by decide))) (fun _ => ?_)
  refine ax_iload_3 (pc := 79) C dX7_markOf_79 ?_
  refine ax_goto (pc := 80) (tgt := 99) C dX7_markOf_80 (by decide) ?_
  exact ax_ir (pc := 99) C rfl dX7_markOf_99 (by first | with_reducible rfl | (simp only [mp_81]; done) | (simp only [mp_81]; with_reducible rfl)) rfl

set_option maxRecDepth 20000 in
set_option maxHeartbeats 4000000 in
theorem w_X7_markOf_2 {Y : ax_Y} {ad : Nat → Nat} (F : ax_F Y) {l : Launch} {σ : ax_Z} {c t : Nat} (hc : c < 6) (ht : σ 77 34 = nI t) (h16 : t + 3 ≤ 16) (hk : σ 81 (8 + 6 * c + 0) = 2) : ax_m Y ad l iX7_markOf 3 σ [.ref (ad 77), .int (nI c)] (some (.int (2 * (nI c + σ 81 (8 + 6 * c + 1))))) (mp_c σ t [24, 21, 20]) := by
  refine ax_m.of F kX7_markOf.1 [some (.ref (ad 77)), some (.int (nI c)), none, none] rfl (Nat.le_of_ble_eq_true rfl) (fun x C => ?_)
  refine ax_aload_0 (pc := 0) C dX7_markOf_0 ?_
  refine ax_iload_1 (pc := 1) C dX7_markOf_1 ?_
  refine ax_iconst (pc := 2) (v := 0) C dX7_markOf_2 (by decide) ?_
  refine ax_callVi (pc := 3) C (w_X7_of F (k := 0) (by omega) (by decide)) kX7_of mX7_201 dX7_markOf_3 (by decide) rfl rfl rfl rfl rfl (Nat.le_of_ble_eq_true rfl) rfl ⟨Nat.le_refl _, Nat.le_refl _⟩ ?_
  refine ax_val C (show _ = 2 by (try simp only [mp_81]); exact hk) ?_
  refine ax_istore_2 (pc := 6) C dX7_markOf_6 rfl ?_
  refine ax_iload_2 (pc := 7) C dX7_markOf_7 ?_
  refine ax_iconst (pc := 8) (v := 4) C dX7_markOf_8 (by decide) ?_
  refine ax_icmp_lt (pc := 9) (tgt := 32) C dX7_markOf_9 (by decide) (fun _ => ?_) (fun z => False.elim (absurd z (by decide)))
  refine ax_iload_2 (pc := 32) C dX7_markOf_32 ?_
  refine ax_iconst (pc := 33) (v := 1) C dX7_markOf_33 (by decide) ?_
  refine ax_icmp_eq (pc := 34) (tgt := 53) C dX7_markOf_34 (by decide) (fun z => False.elim (absurd z (by decide))) (fun _ => ?_)
  refine ax_aload_0 (pc := 37) C dX7_markOf_37 ?_
  refine ax_iload_2 (pc := 38) C dX7_markOf_38 ?_
  refine ax_iconst (pc := 39) (v := 3) C dX7_markOf_39 (by decide) ?_
  refine ax_icmp_ne (pc := 40) (tgt := 48) C dX7_markOf_40 (by decide) (fun _ => ?_) (fun z => False.elim (absurd z (by decide)))
  refine ax_bipush (pc := 48) (v := 24) C dX7_markOf_48 (by decide) ?_
  refine ax_callVv (pc := 50) C (w_X7_began F (t := t) ht (by omega)) kX7_began mX7_272 dX7_markOf_50 (by decide) rfl rfl rfl rfl rfl (Nat.le_of_ble_eq_true rfl) rfl ⟨Nat.le_refl _, Nat.le_refl _⟩ ?_
  refine ax_aload_0 (pc := 53) C dX7_markOf_53 ?_
  refine ax_bipush (pc := 54) (v := 21) C dX7_markOf_54 (by decide) ?_
  refine ax_callVv (pc := 56) C (w_X7_began F (t := t + 1) (by exact mp_l) (by omega)) kX7_began mX7_272 dX7_markOf_56 (by decide) rfl rfl rfl rfl rfl (Nat.le_of_ble_eq_true rfl) rfl ⟨Nat.le_refl _, Nat.le_refl _⟩ ?_
  refine ax_aload_0 (pc := 59) C dX7_markOf_59 ?_
  refine ax_bipush (pc := 60) (v := 20) C dX7_markOf_60 (by decide) ?_
  refine ax_callVv (pc := 62) C (w_X7_began F (t := t + 1 + 1) (by exact mp_l) (by omega)) kX7_began mX7_272 dX7_markOf_62 (by decide) rfl rfl rfl rfl rfl (Nat.le_of_ble_eq_true rfl) rfl ⟨Nat.le_refl _, Nat.le_refl _⟩ ?_
  refine ax_iload_1 (pc := 65) C dX7_markOf_65 ?_
  refine ax_aload_0 (pc := 66) C dX7_markOf_66 ?_
  refine ax_iload_1 (pc := 67) C dX7_markOf_67 ?_
  refine ax_iconst (pc := 68) (v := 1) C dX7_markOf_68 (by decide) ?_
  refine ax_callVi (pc := 69) C (w_X7_of F (k := 1) (by omega) (by decide)) kX7_of mX7_201 dX7_markOf_69 (by decide) rfl rfl rfl rfl rfl (Nat.le_of_ble_eq_true rfl) rfl ⟨Nat.le_refl _, Nat.le_refl _⟩ ?_
  refine ax_iadd (pc := 72) C dX7_markOf_72 ?_
  refine ax_istore_3 (pc := 73) C dX7_markOf_73 rfl ?_
  refine ax_iload_2 (pc := 74) C dX7_markOf_74 ?_
  refine ax_iconst (pc := 75) (v := 1) C dX7_markOf_75 (by decide) ?_
  refine ax_icmp_ne (pc := 76) (tgt := 83) C dX7_markOf_76 (by decide) (fun _ => ?_) (fun z => False.elim (absurd z (by decide)))
  refine ax_iload_2 (pc := 83) C dX7_markOf_83 ?_
  refine ax_iconst (pc := 84) (v := 3) C dX7_markOf_84 (by decide) ?_
  refine ax_icmp_ne (pc := 85) (tgt := 96) C dX7_markOf_85 (by decide) (fun _ => ?_) (fun z => False.elim (absurd z (by decide)))
  refine ax_iconst (pc := 96) (v := 2) C dX7_markOf_96 (by decide) ?_
  refine ax_iload_3 (pc := 97) C dX7_markOf_97 ?_
  refine ax_imul (pc := 98) C dX7_markOf_98 ?_
  exact ax_ir (pc := 99) C rfl dX7_markOf_99 (by first | with_reducible rfl | (simp only [mp_81]; done) | (simp only [mp_81]; with_reducible rfl)) rfl

set_option maxRecDepth 20000 in
set_option maxHeartbeats 4000000 in
theorem w_X7_markOf_3 {Y : ax_Y} {ad : Nat → Nat} (F : ax_F Y) {l : Launch} {σ : ax_Z} {c t : Nat} (hc : c < 6) (ht : σ 77 34 = nI t) (h16 : t + 3 ≤ 16) (hk : σ 81 (8 + 6 * c + 0) = 3) : ax_m Y ad l iX7_markOf 3 σ [.ref (ad 77), .int (nI c)] (some (.int (nI c + σ 81 (8 + 6 * c + 1) - 1000))) (mp_c σ t [22, 21, 20]) := by
  refine ax_m.of F kX7_markOf.1 [some (.ref (ad 77)), some (.int (nI c)), none, none] rfl (Nat.le_of_ble_eq_true rfl) (fun x C => ?_)
  refine ax_aload_0 (pc := 0) C dX7_markOf_0 ?_
  refine ax_iload_1 (pc := 1) C dX7_markOf_1 ?_
  refine ax_iconst (pc := 2) (v := 0) C dX7_markOf_2 (by decide) ?_
  refine ax_callVi (pc := 3) C (w_X7_of F (k := 0) (by omega) (by decide)) kX7_of mX7_201 dX7_markOf_3 (by decide) rfl rfl rfl rfl rfl (Nat.le_of_ble_eq_true rfl) rfl ⟨Nat.le_refl _, Nat.le_refl _⟩ ?_
  refine ax_val C (show _ = 3 by (try simp only [mp_81]); exact hk) ?_
  refine ax_istore_2 (pc := 6) C dX7_markOf_6 rfl ?_
  refine ax_iload_2 (pc := 7) C dX7_markOf_7 ?_
  refine ax_iconst (pc := 8) (v := 4) C dX7_markOf_8 (by decide) ?_
  refine ax_icmp_lt (pc := 9) (tgt := 32) C dX7_markOf_9 (by decide) (fun _ => ?_) (fun z => False.elim (absurd z (by decide)))
  refine ax_iload_2 (pc := 32) C dX7_markOf_32 ?_
  refine ax_iconst (pc := 33) (v := 1) C dX7_markOf_33 (by decide) ?_
  refine ax_icmp_eq (pc := 34) (tgt := 53) C dX7_markOf_34 (by decide) (fun z => False.elim (absurd z (by decide))) (fun _ => ?_)
  refine ax_aload_0 (pc := 37) C dX7_markOf_37 ?_
  refine ax_iload_2 (pc := 38) C dX7_markOf_38 ?_
  refine ax_iconst (pc := 39) (v := 3) C dX7_markOf_39 (by decide) ?_
  refine ax_icmp_ne (pc := 40) (tgt := 48) C dX7_markOf_40 (by decide) (fun z => False.elim (absurd z (by decide))) (fun _ => ?_)
  refine ax_bipush (pc := 43) (v := 22) C dX7_markOf_43 (by decide) ?_
  refine ax_goto (pc := 45) (tgt := 50) C dX7_markOf_45 (by decide) ?_
  refine ax_callVv (pc := 50) C (w_X7_began F (t := t) ht (by omega)) kX7_began mX7_272 dX7_markOf_50 (by decide) rfl rfl rfl rfl rfl (Nat.le_of_ble_eq_true rfl) rfl ⟨Nat.le_refl _, Nat.le_refl _⟩ ?_
  refine ax_aload_0 (pc := 53) C dX7_markOf_53 ?_
  refine ax_bipush (pc := 54) (v := 21) C dX7_markOf_54 (by decide) ?_
  refine ax_callVv (pc := 56) C (w_X7_began F (t := t + 1) (by exact mp_l) (by omega)) kX7_began mX7_272 dX7_markOf_56 (by decide) rfl rfl rfl rfl rfl (Nat.le_of_ble_eq_true rfl) rfl ⟨Nat.le_refl _, Nat.le_refl _⟩ ?_
  refine ax_aload_0 (pc := 59) C dX7_markOf_59 ?_
  refine ax_bipush (pc := 60) (v := 20) C dX7_markOf_60 (by decide) ?_
  refine ax_callVv (pc := 62) C (w_X7_began F (t := t + 1 + 1) (by exact mp_l) (by omega)) kX7_began mX7_272 dX7_markOf_62 (by decide) rfl rfl rfl rfl rfl (Nat.le_of_ble_eq_true rfl) rfl ⟨Nat.le_refl _, Nat.le_refl _⟩ ?_
  refine ax_iload_1 (pc := 65) C dX7_markOf_65 ?_
  refine ax_aload_0 (pc := 66) C dX7_markOf_66 ?_
  refine ax_iload_1 (pc := 67) C dX7_markOf_67 ?_
  refine ax_iconst (pc := 68) (v := 1) C dX7_markOf_68 (by decide) ?_
  refine ax_callVi (pc := 69) C (w_X7_of F (k := 1) (by omega) (by decide)) kX7_of mX7_201 dX7_markOf_69 (by decide) rfl rfl rfl rfl rfl (Nat.le_of_ble_eq_true rfl) rfl ⟨Nat.le_refl _, Nat.le_refl _⟩ ?_
  refine ax_iadd (pc := 72) C dX7_markOf_72 ?_
  refine ax_istore_3 (pc := 73) C dX7_markOf_73 rfl ?_
  refine ax_iload_2 (pc := 74) C dX7_markOf_74 ?_
  refine ax_iconst (pc := 75) (v := 1) C dX7_markOf_75 (by decide) ?_
  refine ax_icmp_ne (pc := 76) (tgt := 83) C dX7_markOf_76 (by decide) (fun _ => ?_) (fun z => False.elim (absurd z (by decide)))
  refine ax_iload_2 (pc := 83) C dX7_markOf_83 ?_
  refine ax_iconst (pc := 84) (v := 3) C dX7_markOf_84 (by decide) ?_
  refine ax_icmp_ne (pc := 85) (tgt := 96) C dX7_markOf_85 (by decide) (fun z => False.elim (absurd z (by decide))) (fun _ => ?_)
  refine ax_iload_3 (pc := 88) C dX7_markOf_88 ?_
  refine ax_sipush (pc := 89) (v := 1000) C dX7_markOf_89 (by decide) ?_
  refine ax_isub (pc := 92) C dX7_markOf_92 ?_
  refine ax_goto (pc := 93) (tgt := 99) C dX7_markOf_93 (by decide) ?_
  exact ax_ir (pc := 99) C rfl dX7_markOf_99 (by first | with_reducible rfl | (simp only [mp_81]; done) | (simp only [mp_81]; with_reducible rfl)) rfl

set_option maxRecDepth 20000 in
set_option maxHeartbeats 4000000 in
theorem w_X7_markOf_4 {Y : ax_Y} {ad : Nat → Nat} (F : ax_F Y) {l : Launch} {σ : ax_Z} {c t : Nat} (hc : c < 6) (ht : σ 77 34 = nI t) (h16 : t + 4 ≤ 16) (hk : σ 81 (8 + 6 * c + 0) = 4) : ax_m Y ad l iX7_markOf 3 σ [.ref (ad 77), .int (nI c)] (some (.int (nI c - (σ 81 (8 + 6 * c + 2) - 100)))) (mp_c σ t [23, 20, 13, 10]) := by
  refine ax_m.of F kX7_markOf.1 [some (.ref (ad 77)), some (.int (nI c)), none, none] rfl (Nat.le_of_ble_eq_true rfl) (fun x C => ?_)
  refine ax_aload_0 (pc := 0) C dX7_markOf_0 ?_
  refine ax_iload_1 (pc := 1) C dX7_markOf_1 ?_
  refine ax_iconst (pc := 2) (v := 0) C dX7_markOf_2 (by decide) ?_
  refine ax_callVi (pc := 3) C (w_X7_of F (k := 0) (by omega) (by decide)) kX7_of mX7_201 dX7_markOf_3 (by decide) rfl rfl rfl rfl rfl (Nat.le_of_ble_eq_true rfl) rfl ⟨Nat.le_refl _, Nat.le_refl _⟩ ?_
  refine ax_val C (show _ = 4 by (try simp only [mp_81]); exact hk) ?_
  refine ax_istore_2 (pc := 6) C dX7_markOf_6 rfl ?_
  refine ax_iload_2 (pc := 7) C dX7_markOf_7 ?_
  refine ax_iconst (pc := 8) (v := 4) C dX7_markOf_8 (by decide) ?_
  refine ax_icmp_lt (pc := 9) (tgt := 32) C dX7_markOf_9 (by decide) (fun z => False.elim (absurd z (by decide))) (fun _ => ?_)
  refine ax_aload_0 (pc := 12) C dX7_markOf_12 ?_
  refine ax_bipush (pc := 13) (v := 23) C dX7_markOf_13 (by decide) ?_
  refine ax_callVv (pc := 15) C (w_X7_began F (t := t) ht (by omega)) kX7_began mX7_272 dX7_markOf_15 (by decide) rfl rfl rfl rfl rfl (Nat.le_of_ble_eq_true rfl) rfl ⟨Nat.le_refl _, Nat.le_refl _⟩ ?_
  refine ax_aload_0 (pc := 18) C dX7_markOf_18 ?_
  refine ax_bipush (pc := 19) (v := 20) C dX7_markOf_19 (by decide) ?_
  refine ax_callVv (pc := 21) C (w_X7_began F (t := t + 1) (by exact mp_l) (by omega)) kX7_began mX7_272 dX7_markOf_21 (by decide) rfl rfl rfl rfl rfl (Nat.le_of_ble_eq_true rfl) rfl ⟨Nat.le_refl _, Nat.le_refl _⟩ ?_
  refine ax_iload_1 (pc := 24) C dX7_markOf_24 ?_
  refine ax_aload_0 (pc := 25) C dX7_markOf_25 ?_
  refine ax_iload_1 (pc := 26) C dX7_markOf_26 ?_
  refine ax_callVi (pc := 27) C (w_X7_goSize_4 F (t := t + 1 + 1) (by omega) (by exact mp_l) (by omega) (by (try simp only [mp_81]); exact hk)) kX7_goSize mX7_278 dX7_markOf_27 (by decide) rfl rfl rfl rfl rfl (Nat.le_of_ble_eq_true rfl) rfl ⟨Nat.le_refl _, Nat.le_refl _⟩ ?_
  refine ax_isub (pc := 30) C dX7_markOf_30 ?_
  exact ax_ir (pc := 31) C rfl dX7_markOf_31 (by first | with_reducible rfl | (simp only [mp_81]; done) | (simp only [mp_81]; with_reducible rfl)) rfl

set_option maxRecDepth 20000 in
set_option maxHeartbeats 4000000 in
theorem w_X7_markOf_5 {Y : ax_Y} {ad : Nat → Nat} (F : ax_F Y) {l : Launch} {σ : ax_Z} {c t : Nat} (hc : c < 6) (ht : σ 77 34 = nI t) (h16 : t + 5 ≤ 16) (hk : σ 81 (8 + 6 * c + 0) = 5) : ax_m Y ad l iX7_markOf 3 σ [.ref (ad 77), .int (nI c)] (some (.int (nI c - (2 * (σ 81 (8 + 6 * c + 2) - 100))))) (mp_c σ t [23, 20, 14, 13, 10]) := by
  refine ax_m.of F kX7_markOf.1 [some (.ref (ad 77)), some (.int (nI c)), none, none] rfl (Nat.le_of_ble_eq_true rfl) (fun x C => ?_)
  refine ax_aload_0 (pc := 0) C dX7_markOf_0 ?_
  refine ax_iload_1 (pc := 1) C dX7_markOf_1 ?_
  refine ax_iconst (pc := 2) (v := 0) C dX7_markOf_2 (by decide) ?_
  refine ax_callVi (pc := 3) C (w_X7_of F (k := 0) (by omega) (by decide)) kX7_of mX7_201 dX7_markOf_3 (by decide) rfl rfl rfl rfl rfl (Nat.le_of_ble_eq_true rfl) rfl ⟨Nat.le_refl _, Nat.le_refl _⟩ ?_
  refine ax_val C (show _ = 5 by (try simp only [mp_81]); exact hk) ?_
  refine ax_istore_2 (pc := 6) C dX7_markOf_6 rfl ?_
  refine ax_iload_2 (pc := 7) C dX7_markOf_7 ?_
  refine ax_iconst (pc := 8) (v := 4) C dX7_markOf_8 (by decide) ?_
  refine ax_icmp_lt (pc := 9) (tgt := 32) C dX7_markOf_9 (by decide) (fun z => False.elim (absurd z (by decide))) (fun _ => ?_)
  refine ax_aload_0 (pc := 12) C dX7_markOf_12 ?_
  refine ax_bipush (pc := 13) (v := 23) C dX7_markOf_13 (by decide) ?_
  refine ax_callVv (pc := 15) C (w_X7_began F (t := t) ht (by omega)) kX7_began mX7_272 dX7_markOf_15 (by decide) rfl rfl rfl rfl rfl (Nat.le_of_ble_eq_true rfl) rfl ⟨Nat.le_refl _, Nat.le_refl _⟩ ?_
  refine ax_aload_0 (pc := 18) C dX7_markOf_18 ?_
  refine ax_bipush (pc := 19) (v := 20) C dX7_markOf_19 (by decide) ?_
  refine ax_callVv (pc := 21) C (w_X7_began F (t := t + 1) (by exact mp_l) (by omega)) kX7_began mX7_272 dX7_markOf_21 (by decide) rfl rfl rfl rfl rfl (Nat.le_of_ble_eq_true rfl) rfl ⟨Nat.le_refl _, Nat.le_refl _⟩ ?_
  refine ax_iload_1 (pc := 24) C dX7_markOf_24 ?_
  refine ax_aload_0 (pc := 25) C dX7_markOf_25 ?_
  refine ax_iload_1 (pc := 26) C dX7_markOf_26 ?_
  refine ax_callVi (pc := 27) C (w_X7_goSize_5 F (t := t + 1 + 1) (by omega) (by exact mp_l) (by omega) (by (try simp only [mp_81]); exact hk)) kX7_goSize mX7_278 dX7_markOf_27 (by decide) rfl rfl rfl rfl rfl (Nat.le_of_ble_eq_true rfl) rfl ⟨Nat.le_refl _, Nat.le_refl _⟩ ?_
  refine ax_isub (pc := 30) C dX7_markOf_30 ?_
  exact ax_ir (pc := 31) C rfl dX7_markOf_31 (by first | with_reducible rfl | (simp only [mp_81]; done) | (simp only [mp_81]; with_reducible rfl)) rfl

set_option maxRecDepth 20000 in
set_option maxHeartbeats 4000000 in
theorem w_X7_sizeOf_1 {Y : ax_Y} {ad : Nat → Nat} (F : ax_F Y) {l : Launch} {σ : ax_Z} {c t : Nat} (hc : c < 6) (ht : σ 77 34 = nI t) (h16 : t + 4 ≤ 16) (hk : σ 81 (8 + 6 * c + 0) = 1) : ax_m Y ad l iX7_sizeOf 4 σ [.ref (ad 77), .int (nI c)] (some (.int (σ 81 (8 + 6 * c + 2) + (nI c + σ 81 (8 + 6 * c + 1))))) (mp_c σ t [11, 10, 21, 20]) := by
  refine ax_m.of F kX7_sizeOf.1 [some (.ref (ad 77)), some (.int (nI c)), none, none] rfl (Nat.le_of_ble_eq_true rfl) (fun x C => ?_)
  refine ax_aload_0 (pc := 0) C dX7_sizeOf_0 ?_
  refine ax_iload_1 (pc := 1) C dX7_sizeOf_1 ?_
  refine ax_iconst (pc := 2) (v := 0) C dX7_sizeOf_2 (by decide) ?_
  refine ax_callVi (pc := 3) C (w_X7_of F (k := 0) (by omega) (by decide)) kX7_of mX7_201 dX7_sizeOf_3 (by decide) rfl rfl rfl rfl rfl (Nat.le_of_ble_eq_true rfl) rfl ⟨Nat.le_refl _, Nat.le_refl _⟩ ?_
  refine ax_val C (show _ = 1 by (try simp only [mp_81]); exact hk) ?_
  refine ax_istore_2 (pc := 6) C dX7_sizeOf_6 rfl ?_
  refine ax_iload_2 (pc := 7) C dX7_sizeOf_7 ?_
  refine ax_iconst (pc := 8) (v := 4) C dX7_sizeOf_8 (by decide) ?_
  refine ax_icmp_lt (pc := 9) (tgt := 18) C dX7_sizeOf_9 (by decide) (fun _ => ?_) (fun z => False.elim (absurd z (by decide)))
  refine ax_iload_2 (pc := 18) C dX7_sizeOf_18 ?_
  refine ax_iconst (pc := 19) (v := 2) C dX7_sizeOf_19 (by decide) ?_
  refine ax_icmp_ne (pc := 20) (tgt := 29) C dX7_sizeOf_20 (by decide) (fun _ => ?_) (fun z => False.elim (absurd z (by decide)))
  refine ax_aload_0 (pc := 29) C dX7_sizeOf_29 ?_
  refine ax_bipush (pc := 30) (v := 11) C dX7_sizeOf_30 (by decide) ?_
  refine ax_callVv (pc := 32) C (w_X7_began F (t := t) ht (by omega)) kX7_began mX7_272 dX7_sizeOf_32 (by decide) rfl rfl rfl rfl rfl (Nat.le_of_ble_eq_true rfl) rfl ⟨Nat.le_refl _, Nat.le_refl _⟩ ?_
  refine ax_aload_0 (pc := 35) C dX7_sizeOf_35 ?_
  refine ax_iload_1 (pc := 36) C dX7_sizeOf_36 ?_
  refine ax_callVi (pc := 37) C (w_X7_plainSize F (t := t + 1) (by omega) (by exact mp_l) (by omega)) kX7_plainSize mX7_275 dX7_sizeOf_37 (by decide) rfl rfl rfl rfl rfl (Nat.le_of_ble_eq_true rfl) rfl ⟨Nat.le_refl _, Nat.le_refl _⟩ ?_
  refine ax_istore_3 (pc := 40) C dX7_sizeOf_40 rfl ?_
  refine ax_iload_3 (pc := 41) C dX7_sizeOf_41 ?_
  refine ax_aload_0 (pc := 42) C dX7_sizeOf_42 ?_
  refine ax_iload_1 (pc := 43) C dX7_sizeOf_43 ?_
  refine ax_callVi (pc := 44) C (w_X7_markOf_1 F (t := t + 1 + 1) (by omega) (by exact mp_l) (by omega) (by (try simp only [mp_81]); exact hk)) kX7_markOf mX7_281 dX7_sizeOf_44 (by decide) rfl rfl rfl rfl rfl (Nat.le_of_ble_eq_true rfl) rfl ⟨Nat.le_refl _, Nat.le_refl _⟩ ?_
  refine ax_iadd (pc := 47) C dX7_sizeOf_47 ?_
  refine ax_istore_3 (pc := 48) C dX7_sizeOf_48 rfl ?_
  refine ax_iload_2 (pc := 49) C dX7_sizeOf_49 ?_
  refine ax_iconst (pc := 50) (v := 2) C dX7_sizeOf_50 (by decide) ?_
  refine ax_icmp_ne (pc := 51) (tgt := 59) C dX7_sizeOf_51 (by decide) (fun _ => ?_) (fun z => False.elim (absurd z (by decide)))
  refine ax_iload_3 (pc := 59) C dX7_sizeOf_59 ?_
  exact ax_ir (pc := 60) C rfl dX7_sizeOf_60 (by first | with_reducible rfl | (simp only [mp_81]; done) | (simp only [mp_81]; with_reducible rfl)) rfl

set_option maxRecDepth 20000 in
set_option maxHeartbeats 4000000 in
theorem w_X7_sizeOf_2 {Y : ax_Y} {ad : Nat → Nat} (F : ax_F Y) {l : Launch} {σ : ax_Z} {c t : Nat} (hc : c < 6) (ht : σ 77 34 = nI t) (h16 : t + 6 ≤ 16) (hk : σ 81 (8 + 6 * c + 0) = 2) : ax_m Y ad l iX7_sizeOf 4 σ [.ref (ad 77), .int (nI c)] (some (.int (-(σ 81 (8 + 6 * c + 2) + (2 * (nI c + σ 81 (8 + 6 * c + 1))))))) (mp_c σ t [12, 11, 10, 24, 21, 20]) := by
  refine ax_m.of F kX7_sizeOf.1 [some (.ref (ad 77)), some (.int (nI c)), none, none] rfl (Nat.le_of_ble_eq_true rfl) (fun x C => ?_)
  refine ax_aload_0 (pc := 0) C dX7_sizeOf_0 ?_
  refine ax_iload_1 (pc := 1) C dX7_sizeOf_1 ?_
  refine ax_iconst (pc := 2) (v := 0) C dX7_sizeOf_2 (by decide) ?_
  refine ax_callVi (pc := 3) C (w_X7_of F (k := 0) (by omega) (by decide)) kX7_of mX7_201 dX7_sizeOf_3 (by decide) rfl rfl rfl rfl rfl (Nat.le_of_ble_eq_true rfl) rfl ⟨Nat.le_refl _, Nat.le_refl _⟩ ?_
  refine ax_val C (show _ = 2 by (try simp only [mp_81]); exact hk) ?_
  refine ax_istore_2 (pc := 6) C dX7_sizeOf_6 rfl ?_
  refine ax_iload_2 (pc := 7) C dX7_sizeOf_7 ?_
  refine ax_iconst (pc := 8) (v := 4) C dX7_sizeOf_8 (by decide) ?_
  refine ax_icmp_lt (pc := 9) (tgt := 18) C dX7_sizeOf_9 (by decide) (fun _ => ?_) (fun z => False.elim (absurd z (by decide)))
  refine ax_iload_2 (pc := 18) C dX7_sizeOf_18 ?_
  refine ax_iconst (pc := 19) (v := 2) C dX7_sizeOf_19 (by decide) ?_
  refine ax_icmp_ne (pc := 20) (tgt := 29) C dX7_sizeOf_20 (by decide) (fun z => False.elim (absurd z (by decide))) (fun _ => ?_)
  refine ax_aload_0 (pc := 23) C dX7_sizeOf_23 ?_
  refine ax_bipush (pc := 24) (v := 12) C dX7_sizeOf_24 (by decide) ?_
  refine ax_callVv (pc := 26) C (w_X7_began F (t := t) ht (by omega)) kX7_began mX7_272 dX7_sizeOf_26 (by decide) rfl rfl rfl rfl rfl (Nat.le_of_ble_eq_true rfl) rfl ⟨Nat.le_refl _, Nat.le_refl _⟩ ?_
  refine ax_aload_0 (pc := 29) C dX7_sizeOf_29 ?_
  refine ax_bipush (pc := 30) (v := 11) C dX7_sizeOf_30 (by decide) ?_
  refine ax_callVv (pc := 32) C (w_X7_began F (t := t + 1) (by exact mp_l) (by omega)) kX7_began mX7_272 dX7_sizeOf_32 (by decide) rfl rfl rfl rfl rfl (Nat.le_of_ble_eq_true rfl) rfl ⟨Nat.le_refl _, Nat.le_refl _⟩ ?_
  refine ax_aload_0 (pc := 35) C dX7_sizeOf_35 ?_
  refine ax_iload_1 (pc := 36) C dX7_sizeOf_36 ?_
  refine ax_callVi (pc := 37) C (w_X7_plainSize F (t := t + 1 + 1) (by omega) (by exact mp_l) (by omega)) kX7_plainSize mX7_275 dX7_sizeOf_37 (by decide) rfl rfl rfl rfl rfl (Nat.le_of_ble_eq_true rfl) rfl ⟨Nat.le_refl _, Nat.le_refl _⟩ ?_
  refine ax_istore_3 (pc := 40) C dX7_sizeOf_40 rfl ?_
  refine ax_iload_3 (pc := 41) C dX7_sizeOf_41 ?_
  refine ax_aload_0 (pc := 42) C dX7_sizeOf_42 ?_
  refine ax_iload_1 (pc := 43) C dX7_sizeOf_43 ?_
  refine ax_callVi (pc := 44) C (w_X7_markOf_2 F (t := t + 1 + 1 + 1) (by omega) (by exact mp_l) (by omega) (by (try simp only [mp_81]); exact hk)) kX7_markOf mX7_281 dX7_sizeOf_44 (by decide) rfl rfl rfl rfl rfl (Nat.le_of_ble_eq_true rfl) rfl ⟨Nat.le_refl _, Nat.le_refl _⟩ ?_
  refine ax_iadd (pc := 47) C dX7_sizeOf_47 ?_
  refine ax_istore_3 (pc := 48) C dX7_sizeOf_48 rfl ?_
  refine ax_iload_2 (pc := 49) C dX7_sizeOf_49 ?_
  refine ax_iconst (pc := 50) (v := 2) C dX7_sizeOf_50 (by decide) ?_
  refine ax_icmp_ne (pc := 51) (tgt := 59) C dX7_sizeOf_51 (by decide) (fun z => False.elim (absurd z (by decide))) (fun _ => ?_)
  refine ax_iload_3 (pc := 54) C dX7_sizeOf_54 ?_
  refine ax_ineg (pc := 55) C dX7_sizeOf_55 ?_
  refine ax_goto (pc := 56) (tgt := 60) C dX7_sizeOf_56 (by decide) ?_
  exact ax_ir (pc := 60) C rfl dX7_sizeOf_60 (by first | with_reducible rfl | (simp only [mp_81]; done) | (simp only [mp_81]; with_reducible rfl)) rfl

set_option maxRecDepth 20000 in
set_option maxHeartbeats 4000000 in
theorem w_X7_sizeOf_3 {Y : ax_Y} {ad : Nat → Nat} (F : ax_F Y) {l : Launch} {σ : ax_Z} {c t : Nat} (hc : c < 6) (ht : σ 77 34 = nI t) (h16 : t + 5 ≤ 16) (hk : σ 81 (8 + 6 * c + 0) = 3) : ax_m Y ad l iX7_sizeOf 4 σ [.ref (ad 77), .int (nI c)] (some (.int (σ 81 (8 + 6 * c + 2) + (nI c + σ 81 (8 + 6 * c + 1) - 1000)))) (mp_c σ t [11, 10, 22, 21, 20]) := by
  refine ax_m.of F kX7_sizeOf.1 [some (.ref (ad 77)), some (.int (nI c)), none, none] rfl (Nat.le_of_ble_eq_true rfl) (fun x C => ?_)
  refine ax_aload_0 (pc := 0) C dX7_sizeOf_0 ?_
  refine ax_iload_1 (pc := 1) C dX7_sizeOf_1 ?_
  refine ax_iconst (pc := 2) (v := 0) C dX7_sizeOf_2 (by decide) ?_
  refine ax_callVi (pc := 3) C (w_X7_of F (k := 0) (by omega) (by decide)) kX7_of mX7_201 dX7_sizeOf_3 (by decide) rfl rfl rfl rfl rfl (Nat.le_of_ble_eq_true rfl) rfl ⟨Nat.le_refl _, Nat.le_refl _⟩ ?_
  refine ax_val C (show _ = 3 by (try simp only [mp_81]); exact hk) ?_
  refine ax_istore_2 (pc := 6) C dX7_sizeOf_6 rfl ?_
  refine ax_iload_2 (pc := 7) C dX7_sizeOf_7 ?_
  refine ax_iconst (pc := 8) (v := 4) C dX7_sizeOf_8 (by decide) ?_
  refine ax_icmp_lt (pc := 9) (tgt := 18) C dX7_sizeOf_9 (by decide) (fun _ => ?_) (fun z => False.elim (absurd z (by decide)))
  refine ax_iload_2 (pc := 18) C dX7_sizeOf_18 ?_
  refine ax_iconst (pc := 19) (v := 2) C dX7_sizeOf_19 (by decide) ?_
  refine ax_icmp_ne (pc := 20) (tgt := 29) C dX7_sizeOf_20 (by decide) (fun _ => ?_) (fun z => False.elim (absurd z (by decide)))
  refine ax_aload_0 (pc := 29) C dX7_sizeOf_29 ?_
  refine ax_bipush (pc := 30) (v := 11) C dX7_sizeOf_30 (by decide) ?_
  refine ax_callVv (pc := 32) C (w_X7_began F (t := t) ht (by omega)) kX7_began mX7_272 dX7_sizeOf_32 (by decide) rfl rfl rfl rfl rfl (Nat.le_of_ble_eq_true rfl) rfl ⟨Nat.le_refl _, Nat.le_refl _⟩ ?_
  refine ax_aload_0 (pc := 35) C dX7_sizeOf_35 ?_
  refine ax_iload_1 (pc := 36) C dX7_sizeOf_36 ?_
  refine ax_callVi (pc := 37) C (w_X7_plainSize F (t := t + 1) (by omega) (by exact mp_l) (by omega)) kX7_plainSize mX7_275 dX7_sizeOf_37 (by decide) rfl rfl rfl rfl rfl (Nat.le_of_ble_eq_true rfl) rfl ⟨Nat.le_refl _, Nat.le_refl _⟩ ?_
  refine ax_istore_3 (pc := 40) C dX7_sizeOf_40 rfl ?_
  refine ax_iload_3 (pc := 41) C dX7_sizeOf_41 ?_
  refine ax_aload_0 (pc := 42) C dX7_sizeOf_42 ?_
  refine ax_iload_1 (pc := 43) C dX7_sizeOf_43 ?_
  refine ax_callVi (pc := 44) C (w_X7_markOf_3 F (t := t + 1 + 1) (by omega) (by exact mp_l) (by omega) (by (try simp only [mp_81]); exact hk)) kX7_markOf mX7_281 dX7_sizeOf_44 (by decide) rfl rfl rfl rfl rfl (Nat.le_of_ble_eq_true rfl) rfl ⟨Nat.le_refl _, Nat.le_refl _⟩ ?_
  refine ax_iadd (pc := 47) C dX7_sizeOf_47 ?_
  refine ax_istore_3 (pc := 48) C dX7_sizeOf_48 rfl ?_
  refine ax_iload_2 (pc := 49) C dX7_sizeOf_49 ?_
  refine ax_iconst (pc := 50) (v := 2) C dX7_sizeOf_50 (by decide) ?_
  refine ax_icmp_ne (pc := 51) (tgt := 59) C dX7_sizeOf_51 (by decide) (fun _ => ?_) (fun z => False.elim (absurd z (by decide)))
  refine ax_iload_3 (pc := 59) C dX7_sizeOf_59 ?_
  exact ax_ir (pc := 60) C rfl dX7_sizeOf_60 (by first | with_reducible rfl | (simp only [mp_81]; done) | (simp only [mp_81]; with_reducible rfl)) rfl

set_option maxRecDepth 20000 in
set_option maxHeartbeats 4000000 in
theorem w_X7_sizeOf_4 {Y : ax_Y} {ad : Nat → Nat} (F : ax_F Y) {l : Launch} {σ : ax_Z} {c t : Nat} (hc : c < 6) (ht : σ 77 34 = nI t) (h16 : t + 2 ≤ 16) (hk : σ 81 (8 + 6 * c + 0) = 4) : ax_m Y ad l iX7_sizeOf 4 σ [.ref (ad 77), .int (nI c)] (some (.int (σ 81 (8 + 6 * c + 2) - 100))) (mp_c σ t [13, 10]) := by
  refine ax_m.of F kX7_sizeOf.1 [some (.ref (ad 77)), some (.int (nI c)), none, none] rfl (Nat.le_of_ble_eq_true rfl) (fun x C => ?_)
  refine ax_aload_0 (pc := 0) C dX7_sizeOf_0 ?_
  refine ax_iload_1 (pc := 1) C dX7_sizeOf_1 ?_
  refine ax_iconst (pc := 2) (v := 0) C dX7_sizeOf_2 (by decide) ?_
  refine ax_callVi (pc := 3) C (w_X7_of F (k := 0) (by omega) (by decide)) kX7_of mX7_201 dX7_sizeOf_3 (by decide) rfl rfl rfl rfl rfl (Nat.le_of_ble_eq_true rfl) rfl ⟨Nat.le_refl _, Nat.le_refl _⟩ ?_
  refine ax_val C (show _ = 4 by (try simp only [mp_81]); exact hk) ?_
  refine ax_istore_2 (pc := 6) C dX7_sizeOf_6 rfl ?_
  refine ax_iload_2 (pc := 7) C dX7_sizeOf_7 ?_
  refine ax_iconst (pc := 8) (v := 4) C dX7_sizeOf_8 (by decide) ?_
  refine ax_icmp_lt (pc := 9) (tgt := 18) C dX7_sizeOf_9 (by decide) (fun z => False.elim (absurd z (by decide))) (fun _ => ?_)
  refine ax_aload_0 (pc := 12) C dX7_sizeOf_12 ?_
  refine ax_iload_1 (pc := 13) C dX7_sizeOf_13 ?_
  refine ax_callVi (pc := 14) C (w_X7_goSize_4 F hc ht (by omega) hk) kX7_goSize mX7_278 dX7_sizeOf_14 (by decide) rfl rfl rfl rfl rfl (Nat.le_of_ble_eq_true rfl) rfl ⟨Nat.le_refl _, Nat.le_refl _⟩ ?_
  exact ax_ir (pc := 17) C rfl dX7_sizeOf_17 (by first | with_reducible rfl | (simp only [mp_81]; done) | (simp only [mp_81]; with_reducible rfl)) rfl

set_option maxRecDepth 20000 in
set_option maxHeartbeats 4000000 in
theorem w_X7_sizeOf_5 {Y : ax_Y} {ad : Nat → Nat} (F : ax_F Y) {l : Launch} {σ : ax_Z} {c t : Nat} (hc : c < 6) (ht : σ 77 34 = nI t) (h16 : t + 3 ≤ 16) (hk : σ 81 (8 + 6 * c + 0) = 5) : ax_m Y ad l iX7_sizeOf 4 σ [.ref (ad 77), .int (nI c)] (some (.int (2 * (σ 81 (8 + 6 * c + 2) - 100)))) (mp_c σ t [14, 13, 10]) := by
  refine ax_m.of F kX7_sizeOf.1 [some (.ref (ad 77)), some (.int (nI c)), none, none] rfl (Nat.le_of_ble_eq_true rfl) (fun x C => ?_)
  refine ax_aload_0 (pc := 0) C dX7_sizeOf_0 ?_
  refine ax_iload_1 (pc := 1) C dX7_sizeOf_1 ?_
  refine ax_iconst (pc := 2) (v := 0) C dX7_sizeOf_2 (by decide) ?_
  refine ax_callVi (pc := 3) C (w_X7_of F (k := 0) (by omega) (by decide)) kX7_of mX7_201 dX7_sizeOf_3 (by decide) rfl rfl rfl rfl rfl (Nat.le_of_ble_eq_true rfl) rfl ⟨Nat.le_refl _, Nat.le_refl _⟩ ?_
  refine ax_val C (show _ = 5 by (try simp only [mp_81]); exact hk) ?_
  refine ax_istore_2 (pc := 6) C dX7_sizeOf_6 rfl ?_
  refine ax_iload_2 (pc := 7) C dX7_sizeOf_7 ?_
  refine ax_iconst (pc := 8) (v := 4) C dX7_sizeOf_8 (by decide) ?_
  refine ax_icmp_lt (pc := 9) (tgt := 18) C dX7_sizeOf_9 (by decide) (fun z => False.elim (absurd z (by decide))) (fun _ => ?_)
  refine ax_aload_0 (pc := 12) C dX7_sizeOf_12 ?_
  refine ax_iload_1 (pc := 13) C dX7_sizeOf_13 ?_
  refine ax_callVi (pc := 14) C (w_X7_goSize_5 F hc ht (by omega) hk) kX7_goSize mX7_278 dX7_sizeOf_14 (by decide) rfl rfl rfl rfl rfl (Nat.le_of_ble_eq_true rfl) rfl ⟨Nat.le_refl _, Nat.le_refl _⟩ ?_
  exact ax_ir (pc := 17) C rfl dX7_sizeOf_17 (by first | with_reducible rfl | (simp only [mp_81]; done) | (simp only [mp_81]; with_reducible rfl)) rfl
