set_option maxRecDepth 20000 in
set_option maxHeartbeats 4000000 in
theorem w_J0_coder_7d493 {Y : ax_Y} {ad : Nat → Nat} (F : ax_F Y) {l : Launch} {σ : ax_Z} {k a v : Nat} (hg : ax_Sg Y k a v) : ax_m Y ad l iJ0_coder_7d493 0 σ [.ref a] (some (.int 0)) σ := by
  refine ax_m.of F kJ0_coder_7d493.1 [some (.ref a)] rfl (Nat.le_of_ble_eq_true rfl) (fun x C => ?_)
  refine ax_gsz (pc := 0) C (ax_Zc F) fJ_38 dJ0_coder_7d493_0 ?_
  refine ax_if_eq (pc := 3) (tgt := 13) C dJ0_coder_7d493_3 (by decide) (fun z => absurd z (by decide)) (fun _ => ?_)
  refine ax_aload_0 (pc := 6) C dJ0_coder_7d493_6 ?_
  refine ax_ofg (pc := 7) C hg.2.2.1 fJ_15 dJ0_coder_7d493_7 ?_
  refine ax_goto (pc := 10) (tgt := 14) C dJ0_coder_7d493_10 (by decide) ?_
  exact ax_zr (pc := 14) C rfl rfl dJ0_coder_7d493_14 rfl rfl

set_option maxRecDepth 20000 in
set_option maxHeartbeats 4000000 in
theorem w_J0_isLatin1_aae02 {Y : ax_Y} {ad : Nat → Nat} (F : ax_F Y) {l : Launch} {σ : ax_Z} {k a v : Nat} (hg : ax_Sg Y k a v) : ax_m Y ad l iJ0_isLatin1_aae02 0 σ [.ref a] (some (.int 1)) σ := by
  refine ax_m.of F kJ0_isLatin1_aae02.1 [some (.ref a)] rfl (Nat.le_of_ble_eq_true rfl) (fun x C => ?_)
  refine ax_gsz (pc := 0) C (ax_Zc F) fJ_38 dJ0_isLatin1_aae02_0 ?_
  refine ax_if_eq (pc := 3) (tgt := 17) C dJ0_isLatin1_aae02_3 (by decide) (fun z => absurd z (by decide)) (fun _ => ?_)
  refine ax_aload_0 (pc := 6) C dJ0_isLatin1_aae02_6 ?_
  refine ax_ofg (pc := 7) C hg.2.2.1 fJ_15 dJ0_isLatin1_aae02_7 ?_
  refine ax_if_ne (pc := 10) (tgt := 17) C dJ0_isLatin1_aae02_10 (by decide) (fun z => absurd rfl z) (fun _ => ?_)
  refine ax_iconst (pc := 13) (v := 1) C dJ0_isLatin1_aae02_13 (by decide) ?_
  refine ax_goto (pc := 14) (tgt := 18) C dJ0_isLatin1_aae02_14 (by decide) ?_
  exact ax_zr (pc := 18) C rfl rfl dJ0_isLatin1_aae02_18 rfl rfl

set_option maxRecDepth 20000 in
set_option maxHeartbeats 4000000 in
theorem w_J0_length_8abf5 {Y : ax_Y} {ad : Nat → Nat} (F : ax_F Y) {l : Launch} {σ : ax_Z} {k a v : Nat} (hg : ax_Sg Y k a v) (hl : (tx_b k).length < 100) : ax_m Y ad l iJ0_length_8abf5 1 σ [.ref a] (some (.int (nI (tx_b k).length))) σ := by
  refine ax_m.of F kJ0_length_8abf5.1 [some (.ref a)] rfl (Nat.le_of_ble_eq_true rfl) (fun x C => ?_)
  refine ax_aload_0 (pc := 0) C dJ0_length_8abf5_0 ?_
  refine ax_ofg (pc := 1) C hg.2.2.2.1 fJ_9 dJ0_length_8abf5_1 ?_
  refine ax_tlen (pc := 4) C hg.2.2.2.2 dJ0_length_8abf5_4 ?_
  refine ax_aload_0 (pc := 5) C dJ0_length_8abf5_5 ?_
  refine ax_callO (pc := 6) C hg.2.1 (w_J0_coder_7d493 F hg) kJ0_coder_7d493 mJ0_335 dJ0_length_8abf5_6 (by decide) rfl rfl (Nat.le_of_ble_eq_true rfl) rfl ⟨Nat.le_refl _, Nat.le_refl _⟩ ?_
  refine ax_ishr (pc := 9) C dJ0_length_8abf5_9 ?_
  exact ax_ir (pc := 10) C rfl dJ0_length_8abf5_10 (by rw [pk_shrN (by omega) _ 0 (by decide), Nat.pow_zero, Nat.div_one]) rfl

set_option maxRecDepth 20000 in
set_option maxHeartbeats 4000000 in
theorem w_J3_checkIndex_8e157 {Y : ax_Y} {ad : Nat → Nat} (F : ax_F Y) {l : Launch} {σ : ax_Z} {c m : Nat} (hc : c < m) (hm : m < 2000) {w : Value} (hw : w.category = 1) : ax_m Y ad l iJ3_checkIndex_8e157 0 σ [.int (nI c), .int (nI m), w] (some (.int (nI c))) σ := by
  refine ax_m.of F kJ3_checkIndex_8e157.1 [some (.int (nI c)), some (.int (nI m)), some w] (by simp [ax_Lav, ax_la, hw, show ∀ z : Int32, (Value.int z).category = 1 from fun _ => rfl]) (by simp [lg_sl, hw, show ∀ z : Int32, (Value.int z).category = 1 from fun _ => rfl]) (fun x C => ?_)
  refine ax_iload_0 (pc := 0) C dJ3_checkIndex_8e157_0 ?_
  refine ax_if_lt (pc := 1) (tgt := 9) C dJ3_checkIndex_8e157_1 (by decide) (fun z => absurd z (nI_pos (by omega))) (fun _ => ?_)
  refine ax_iload_0 (pc := 4) C dJ3_checkIndex_8e157_4 ?_
  refine ax_iload_1 (pc := 5) C dJ3_checkIndex_8e157_5 ?_
  refine ax_icmp_lt (pc := 6) (tgt := 16) C dJ3_checkIndex_8e157_6 (by decide) (fun _ => ?_) (fun z => absurd (nI_lt hc (by omega)) z)
  refine ax_iload_0 (pc := 16) C dJ3_checkIndex_8e157_16 ?_
  exact ax_ir (pc := 17) C rfl dJ3_checkIndex_8e157_17 rfl rfl

set_option maxRecDepth 20000 in
set_option maxHeartbeats 4000000 in
theorem w_J0_checkIndex_df160 {Y : ax_Y} {ad : Nat → Nat} (F : ax_F Y) {l : Launch} {σ : ax_Z} {c m : Nat} (hc : c < m) (hm : m < 2000) : ax_m Y ad l iJ0_checkIndex_df160 1 σ [.int (nI c), .int (nI m)] none σ := by
  obtain ⟨w, hw, hz⟩ := ax_Zf F
  refine ax_m.of F kJ0_checkIndex_df160.1 [some (.int (nI c)), some (.int (nI m))] rfl (Nat.le_of_ble_eq_true rfl) (fun x C => ?_)
  refine ax_iload_0 (pc := 0) C dJ0_checkIndex_df160_0 ?_
  refine ax_iload_1 (pc := 1) C dJ0_checkIndex_df160_1 ?_
  refine ax_gsz (pc := 2) C hz fJ_1053 dJ0_checkIndex_df160_2 ?_
  refine ax_callSi (pc := 5) C (w_J3_checkIndex_8e157 F hc hm hw) kJ3_checkIndex_8e157 mJ0_1059 dJ0_checkIndex_df160_5 (by decide) rfl rfl (Nat.le_of_ble_eq_true rfl) rfl ⟨Nat.le_refl _, Nat.le_refl _⟩ ?_
  refine ax_pop (pc := 8) C dJ0_checkIndex_df160_8 rfl ?_
  exact ax_vr (pc := 9) C rfl dJ0_checkIndex_df160_9 rfl

set_option maxRecDepth 20000 in
set_option maxHeartbeats 4000000 in
theorem w_J1_charAt_3b067 {Y : ax_Y} {ad : Nat → Nat} (F : ax_F Y) {l : Launch} {σ : ax_Z} {k a v : Nat} (hg : ax_Sg Y k a v) {c : Nat} (hc : c < (tx_b k).length) (hl : (tx_b k).length < 100) (he : (tx_b k).getD c 0 = (((tx_b k).getD c 0 &&& 255).toUInt32 % 65536).toInt32) : ax_m Y ad l iJ1_charAt_3b067 2 σ [.ref v, .int (nI c)] (some (.int ((tx_b k).getD c 0))) σ := by
  refine ax_m.of F kJ1_charAt_3b067.1 [some (.ref v), some (.int (nI c))] rfl (Nat.le_of_ble_eq_true rfl) (fun x C => ?_)
  refine ax_iload_1 (pc := 0) C dJ1_charAt_3b067_0 ?_
  refine ax_aload_0 (pc := 1) C dJ1_charAt_3b067_1 ?_
  refine ax_tlen (pc := 2) C hg.2.2.2.2 dJ1_charAt_3b067_2 ?_
  refine ax_callSv (pc := 3) C (w_J0_checkIndex_df160 F hc (by omega)) kJ0_checkIndex_df160 mJ1_9 dJ1_charAt_3b067_3 (by decide) rfl rfl (Nat.le_of_ble_eq_true rfl) rfl ⟨Nat.le_refl _, Nat.le_refl _⟩ ?_
  refine ax_aload_0 (pc := 6) C dJ1_charAt_3b067_6 ?_
  refine ax_iload_1 (pc := 7) C dJ1_charAt_3b067_7 ?_
  refine ax_tbal (pc := 8) C (f := fun j => (tx_b k).getD j 0) hg.2.2.2.2 hc (by omega) dJ1_charAt_3b067_8 ?_
  refine ax_sipush (pc := 9) (v := 255) C dJ1_charAt_3b067_9 (by decide) ?_
  refine ax_iand (pc := 12) C dJ1_charAt_3b067_12 ?_
  refine ax_i2c (pc := 13) C dJ1_charAt_3b067_13 ?_
  exact ax_zr (pc := 14) C rfl (pk_nc _) dJ1_charAt_3b067_14 he rfl

set_option maxRecDepth 20000 in
set_option maxHeartbeats 4000000 in
theorem w_J0_charAt_5068e {Y : ax_Y} {ad : Nat → Nat} (F : ax_F Y) {l : Launch} {σ : ax_Z} {k a v : Nat} (hg : ax_Sg Y k a v) {c : Nat} (hc : c < (tx_b k).length) (hl : (tx_b k).length < 100) (he : (tx_b k).getD c 0 = (((tx_b k).getD c 0 &&& 255).toUInt32 % 65536).toInt32) : ax_m Y ad l iJ0_charAt_5068e 3 σ [.ref a, .int (nI c)] (some (.int ((tx_b k).getD c 0))) σ := by
  refine ax_m.of F kJ0_charAt_5068e.1 [some (.ref a), some (.int (nI c))] rfl (Nat.le_of_ble_eq_true rfl) (fun x C => ?_)
  refine ax_aload_0 (pc := 0) C dJ0_charAt_5068e_0 ?_
  refine ax_callO (pc := 1) C hg.2.1 (w_J0_isLatin1_aae02 F hg) kJ0_isLatin1_aae02 mJ0_492 dJ0_charAt_5068e_1 (by decide) rfl rfl (Nat.le_of_ble_eq_true rfl) rfl ⟨Nat.le_refl _, Nat.le_refl _⟩ ?_
  refine ax_if_eq (pc := 4) (tgt := 16) C dJ0_charAt_5068e_4 (by decide) (fun z => absurd z (by decide)) (fun _ => ?_)
  refine ax_aload_0 (pc := 7) C dJ0_charAt_5068e_7 ?_
  refine ax_ofg (pc := 8) C hg.2.2.2.1 fJ_9 dJ0_charAt_5068e_8 ?_
  refine ax_iload_1 (pc := 11) C dJ0_charAt_5068e_11 ?_
  refine ax_callSi (pc := 12) C (w_J1_charAt_3b067 F hg hc hl he) kJ1_charAt_3b067 mJ0_495 dJ0_charAt_5068e_12 (by decide) rfl rfl (Nat.le_of_ble_eq_true rfl) rfl ⟨Nat.le_refl _, Nat.le_refl _⟩ ?_
  exact ax_zr (pc := 15) C rfl (by rw [he]; exact pk_nc _) dJ0_charAt_5068e_15 rfl rfl

theorem tx_ok : ∀ k, k < 7 → (tx_b k).length < 100 ∧ ∀ c, c < (tx_b k).length → (tx_b k).getD c 0 = (((tx_b k).getD c 0 &&& 255).toUInt32 % 65536).toInt32 := by decide +kernel