set_option maxRecDepth 20000 in
set_option maxHeartbeats 4000000 in
theorem w_J6_bitCount_0f7a4 {Y : ax_Y} {ad : Nat → Nat} (F : ax_F Y) {l : Launch} {σ : ax_Z} {v : Int32} : ax_m Y ad l iJ6_bitCount_0f7a4 0 σ [.int v] (some (.int (jd_bc v))) σ := by
  refine ax_m.of F kJ6_bitCount_0f7a4.1 [some (.int v)] rfl (Nat.le_of_ble_eq_true rfl) (fun x C => ?_)
  refine ax_iload_0 (pc := 0) C dJ6_bitCount_0f7a4_0 ?_
  refine ax_iload_0 (pc := 1) C dJ6_bitCount_0f7a4_1 ?_
  refine ax_iconst (pc := 2) (v := 1) C dJ6_bitCount_0f7a4_2 (by decide) ?_
  refine ax_iushr (pc := 3) C dJ6_bitCount_0f7a4_3 ?_
  refine ax_ldcw (pc := 4) C dJ6_bitCount_0f7a4_4 qJ6_265 ?_
  refine ax_iand (pc := 7) C dJ6_bitCount_0f7a4_7 ?_
  refine ax_isub (pc := 8) C dJ6_bitCount_0f7a4_8 ?_
  refine ax_istore_0 (pc := 9) C dJ6_bitCount_0f7a4_9 ?_
  refine ax_iload_0 (pc := 10) C dJ6_bitCount_0f7a4_10 ?_
  refine ax_ldcw (pc := 11) C dJ6_bitCount_0f7a4_11 qJ6_266 ?_
  refine ax_iand (pc := 14) C dJ6_bitCount_0f7a4_14 ?_
  refine ax_iload_0 (pc := 15) C dJ6_bitCount_0f7a4_15 ?_
  refine ax_iconst (pc := 16) (v := 2) C dJ6_bitCount_0f7a4_16 (by decide) ?_
  refine ax_iushr (pc := 17) C dJ6_bitCount_0f7a4_17 ?_
  refine ax_ldcw (pc := 18) C dJ6_bitCount_0f7a4_18 qJ6_266 ?_
  refine ax_iand (pc := 21) C dJ6_bitCount_0f7a4_21 ?_
  refine ax_iadd (pc := 22) C dJ6_bitCount_0f7a4_22 ?_
  refine ax_istore_0 (pc := 23) C dJ6_bitCount_0f7a4_23 ?_
  refine ax_iload_0 (pc := 24) C dJ6_bitCount_0f7a4_24 ?_
  refine ax_iload_0 (pc := 25) C dJ6_bitCount_0f7a4_25 ?_
  refine ax_iconst (pc := 26) (v := 4) C dJ6_bitCount_0f7a4_26 (by decide) ?_
  refine ax_iushr (pc := 27) C dJ6_bitCount_0f7a4_27 ?_
  refine ax_iadd (pc := 28) C dJ6_bitCount_0f7a4_28 ?_
  refine ax_ldcw (pc := 29) C dJ6_bitCount_0f7a4_29 qJ6_267 ?_
  refine ax_iand (pc := 32) C dJ6_bitCount_0f7a4_32 ?_
  refine ax_istore_0 (pc := 33) C dJ6_bitCount_0f7a4_33 ?_
  refine ax_iload_0 (pc := 34) C dJ6_bitCount_0f7a4_34 ?_
  refine ax_iload_0 (pc := 35) C dJ6_bitCount_0f7a4_35 ?_
  refine ax_bipush (pc := 36) (v := 8) C dJ6_bitCount_0f7a4_36 (by decide) ?_
  refine ax_iushr (pc := 38) C dJ6_bitCount_0f7a4_38 ?_
  refine ax_iadd (pc := 39) C dJ6_bitCount_0f7a4_39 ?_
  refine ax_istore_0 (pc := 40) C dJ6_bitCount_0f7a4_40 ?_
  refine ax_iload_0 (pc := 41) C dJ6_bitCount_0f7a4_41 ?_
  refine ax_iload_0 (pc := 42) C dJ6_bitCount_0f7a4_42 ?_
  refine ax_bipush (pc := 43) (v := 16) C dJ6_bitCount_0f7a4_43 (by decide) ?_
  refine ax_iushr (pc := 45) C dJ6_bitCount_0f7a4_45 ?_
  refine ax_iadd (pc := 46) C dJ6_bitCount_0f7a4_46 ?_
  refine ax_istore_0 (pc := 47) C dJ6_bitCount_0f7a4_47 ?_
  refine ax_iload_0 (pc := 48) C dJ6_bitCount_0f7a4_48 ?_
  refine ax_bipush (pc := 49) (v := 63) C dJ6_bitCount_0f7a4_49 (by decide) ?_
  refine ax_iand (pc := 51) C dJ6_bitCount_0f7a4_51 ?_
  exact ax_ir (pc := 52) C rfl dJ6_bitCount_0f7a4_52 rfl rfl

set_option maxRecDepth 20000 in
set_option maxHeartbeats 4000000 in
theorem w_J7_fill_53178 {Y : ax_Y} {ad : Nat → Nat} (F : ax_F Y) {l : Launch} {σ : ax_Z} {k m : Nat} (hs : ax_sh k = .inl (0, m)) (hm : m < 2000) {v : Int32} : ax_m Y ad l iJ7_fill_53178 0 σ [.ref (ad k), .int v] none (ax_fill σ k m v) := by
  refine ax_m.of F kJ7_fill_53178.1 [some (.ref (ad k)), some (.int v), none, none] rfl (Nat.le_of_ble_eq_true rfl) (fun x C => ?_)
  have loop : ∀ (q : Nat) (c : Nat) (τ : ax_Z), τ = ax_fill σ k c v → c ≤ m → m < c + q → ax_S x Y ad 0 0 (ax_Q x Y ad none 96 (ax_g Y ad (ax_fill σ k m v)) 0 0) τ 5 [some (.ref (ad k)), some (.int v), some (.int (nI c)), some (.int (nI m))] [] := by
    intro q
    induction q with
    | zero => intro c τ e h1 h2; exfalso; omega
    | succ q ih =>
      intro c τ e h1 h2
      refine ax_iload_2 (pc := 5) C dJ7_fill_53178_5 ?_
      refine ax_iload_3 (pc := 6) C dJ7_fill_53178_6 ?_
      refine ax_icmp_ge (pc := 7) (tgt := 20) C dJ7_fill_53178_7 (by decide) (fun h7 => ?_) (fun h7 => ?_)
      · have hcm : ¬ c < m := fun q => nI_ge q (by omega) h7
        exact ax_vr (pc := 20) C rfl dJ7_fill_53178_20 (by subst e; rw [show c = m by omega])
      · have hcm : c < m := Nat.lt_of_not_le (fun q => h7 (nI_le q (by omega)))
        refine ax_aload_0 (pc := 10) C dJ7_fill_53178_10 ?_
        refine ax_iload_2 (pc := 11) C dJ7_fill_53178_11 ?_
        refine ax_iload_1 (pc := 12) C dJ7_fill_53178_12 ?_
        refine ax_isn (pc := 13) C dJ7_fill_53178_13 hs (by omega) (by omega) ?_
        refine ax_iinc_2 (pc := 14) C dJ7_fill_53178_14 (1) (by decide) rfl ?_
        refine ax_goto (pc := 17) (tgt := 5) C dJ7_fill_53178_17 (by decide) ?_
        refine ax_Leq ?_ (ih (c + 1) _ ?_ (by omega) (by omega))
        · rw [nI_1]
        · subst e
          exact ax_fill_s
  refine ax_iconst (pc := 0) (v := 0) C dJ7_fill_53178_0 (by decide) ?_
  refine ax_istore_2 (pc := 1) C dJ7_fill_53178_1 rfl ?_
  refine ax_aload_0 (pc := 2) C dJ7_fill_53178_2 ?_
  refine ax_alen (pc := 3) C dJ7_fill_53178_3 hs ?_
  refine ax_istore_3 (pc := 4) C dJ7_fill_53178_4 rfl ?_
  exact loop (m + 1) 0 σ ax_fill_0.symm (by omega) (by omega)
