/-- the figures' number, as the reference adds it up -/
def mv_f (b : Nat → Int32) (s : Nat) : Nat → Int32
  | 0 => 0
  | k + 1 => 10 * mv_f b s k + b (s + k) - 48
set_option maxRecDepth 20000 in
set_option maxHeartbeats 4000000 in
theorem w_X7_figures {Y : ax_Y} {ad : Nat → Nat} (F : ax_F Y) {l : Launch} {σ : ax_Z} {s e : Nat} (hs : σ 77 16 = nI s) (he : σ 77 17 = nI e) (hse : s ≤ e) (h4 : e ≤ 400) : ax_m Y ad l iX7_figures 0 σ [.ref (ad 77)] (some (.int (if σ 77 15 = 3 then mv_f (σ 84) s (e - s) else 0))) σ := by
  refine ax_m.of F kX7_figures.1 [some (.ref (ad 77)), none, none] rfl (Nat.le_of_ble_eq_true rfl) (fun x C => ?_)
  have loop : ∀ (q : Nat) (k : Nat), s + k ≤ e → (0 < k → σ 77 15 = 3) → e - s < k + q → ax_S x Y ad 0 0 (ax_Q x Y ad (some (.int (if σ 77 15 = 3 then mv_f (σ 84) s (e - s) else 0))) 96 (ax_g Y ad σ) 0 0) σ 7 [some (.ref (ad 77)), some (.int (mv_f (σ 84) s k)), some (.int (nI (s + k)))] [] := by
    intro q
    induction q with
    | zero => intro k h0 h1 h2; exfalso; omega
    | succ q ih =>
      intro k h0 h1 h2
      refine ax_iload_2 (pc := 7) C dX7_figures_7 ?_
      refine ax_aload_0 (pc := 8) C dX7_figures_8 ?_
      refine ax_getI (pc := 9) C fX7_120 dX7_figures_9 rfl rfl ?_
      refine ax_val C he ?_
      refine ax_icmp_ge (pc := 12) (tgt := 44) C dX7_figures_12 (by decide) (fun h12 => ?_) (fun h12 => ?_)
      · have hp : ¬ s + k < e := fun z => nI_ge z (by omega) h12
        refine ax_iload_1 (pc := 44) C dX7_figures_44 ?_
        exact ax_ir (pc := 45) C rfl dX7_figures_45 (by
          by_cases h3 : σ 77 15 = 3
          · rw [if_pos h3, show e - s = k by omega]
          · have hk0 : k = 0 := Nat.eq_zero_of_not_pos (fun z => h3 (h1 z))
            subst hk0
            rw [if_neg h3]
            rfl) rfl
      · have hp : s + k < e := Nat.lt_of_not_le (fun z => h12 (nI_le z (by omega)))
        refine ax_aload_0 (pc := 15) C dX7_figures_15 ?_
        refine ax_getI (pc := 16) C fX7_111 dX7_figures_16 rfl rfl ?_
        refine ax_iconst (pc := 19) (v := 3) C dX7_figures_19 (by decide) ?_
        refine ax_icmp_ne (pc := 20) (tgt := 44) C dX7_figures_20 (by decide) (fun h20 => ?_) (fun h20 => ?_)
        · refine ax_iload_1 (pc := 44) C dX7_figures_44 ?_
          exact ax_ir (pc := 45) C rfl dX7_figures_45 (by
            have hk0 : k = 0 := Nat.eq_zero_of_not_pos (fun z => h20 (h1 z))
            subst hk0
            rw [if_neg h20]
            rfl) rfl
        · refine ax_bipush (pc := 23) (v := 10) C dX7_figures_23 (by decide) ?_
          refine ax_iload_1 (pc := 25) C dX7_figures_25 ?_
          refine ax_imul (pc := 26) C dX7_figures_26 ?_
          refine ax_aload_0 (pc := 27) C dX7_figures_27 ?_
          refine ax_getR (pc := 28) C fX7_28 dX7_figures_28 rfl rfl ?_
          refine ax_iload_2 (pc := 31) C dX7_figures_31 ?_
          refine ax_ian (pc := 32) C dX7_figures_32 rfl (by omega) (by decide) ?_
          refine ax_iadd (pc := 33) C dX7_figures_33 ?_
          refine ax_bipush (pc := 34) (v := 48) C dX7_figures_34 (by decide) ?_
          refine ax_isub (pc := 36) C dX7_figures_36 ?_
          refine ax_istore_1 (pc := 37) C dX7_figures_37 rfl ?_
          refine ax_iinc_2 (pc := 38) C dX7_figures_38 (1) (by decide) rfl ?_
          refine ax_goto (pc := 41) (tgt := 7) C dX7_figures_41 (by decide) ?_
          refine ax_Leq (by rw [nI_1]; rfl) (ih (k + 1) (by omega) (fun _ => h20) (by omega))
  refine ax_iconst (pc := 0) (v := 0) C dX7_figures_0 (by decide) ?_
  refine ax_istore_1 (pc := 1) C dX7_figures_1 rfl ?_
  refine ax_aload_0 (pc := 2) C dX7_figures_2 ?_
  refine ax_getI (pc := 3) C fX7_108 dX7_figures_3 rfl rfl ?_
  refine ax_val C hs ?_
  refine ax_istore_2 (pc := 6) C dX7_figures_6 rfl ?_
  exact loop (e - s + 1) 0 (by omega) (fun z => absurd z (by decide)) (by omega)

/-- a name's letters, as the reference packs them -/
def mn_v (b : Nat → Int32) (s : Nat) : Nat → Int64
  | 0 => 0
  | k + 1 => mn_v b s k <<< ((8 : Int32).toInt64 &&& 63) ||| (b (s + k)).toInt64
set_option maxRecDepth 20000 in
set_option maxHeartbeats 4000000 in
theorem w_X7_name {Y : ax_Y} {ad : Nat → Nat} (F : ax_F Y) {l : Launch} {σ : ax_Z} {s e : Nat} (hs : σ 77 16 = nI s) (he : σ 77 17 = nI e) (hse : s ≤ e) (h4 : e ≤ 400) : ax_m Y ad l iX7_name 0 σ [.ref (ad 77)] (some (.long (if σ 77 18 = 0 then (if σ 77 15 = 2 ∧ e - s < 8 then mn_v (σ 84) s (e - s) else 0) else 0))) σ := by
  refine ax_m.of F kX7_name.1 [some (.ref (ad 77)), none, none, none] rfl (Nat.le_of_ble_eq_true rfl) (fun x C => ?_)
  have loop : ∀ (q : Nat) (k : Nat), s + k ≤ e → (0 < k → σ 77 15 = 2 ∧ e - s < 8) → e - s < k + q → ax_S x Y ad 0 0 (ax_Q x Y ad (some (.long (if σ 77 18 = 0 then (if σ 77 15 = 2 ∧ e - s < 8 then mn_v (σ 84) s (e - s) else 0) else 0))) 96 (ax_g Y ad σ) 0 0) σ 7 [some (.ref (ad 77)), some (.long (mn_v (σ 84) s k)), none, some (.int (nI (s + k)))] [] := by
    intro q
    induction q with
    | zero => intro k h0 h1 h2; exfalso; omega
    | succ q ih =>
      intro k h0 h1 h2
      refine ax_iload_3 (pc := 7) C dX7_name_7 ?_
      refine ax_aload_0 (pc := 8) C dX7_name_8 ?_
      refine ax_getI (pc := 9) C fX7_120 dX7_name_9 rfl rfl ?_
      refine ax_val C he ?_
      refine ax_icmp_ge (pc := 12) (tgt := 56) C dX7_name_12 (by decide) (fun h12 => ?_) (fun h12 => ?_)
      · have hp : ¬ s + k < e := fun z => nI_ge z (by omega) h12
        refine ax_aload_0 (pc := 56) C dX7_name_56 ?_
        refine ax_getI (pc := 57) C fX7_123 dX7_name_57 rfl rfl ?_
        refine ax_if_ne (pc := 60) (tgt := 67) C dX7_name_60 (by decide) (fun h60 => ?_) (fun h60 => ?_)
        · refine ax_lconst (pc := 67) (v := 0) C dX7_name_67 (by decide) ?_
          exact ax_lr (pc := 68) C rfl dX7_name_68 (by rw [if_neg h60]) rfl
        · refine ax_lload_1 (pc := 63) C dX7_name_63 ?_
          refine ax_goto (pc := 64) (tgt := 68) C dX7_name_64 (by decide) ?_
          exact ax_lr (pc := 68) C rfl dX7_name_68 (by
            rw [if_pos h60]
            by_cases h3 : σ 77 15 = 2 ∧ e - s < 8
            · rw [if_pos h3, show e - s = k by omega]
            · have hk0 : k = 0 := Nat.eq_zero_of_not_pos (fun z => h3 (h1 z))
              subst hk0
              rw [if_neg h3]
              rfl) rfl
      · have hp : s + k < e := Nat.lt_of_not_le (fun z => h12 (nI_le z (by omega)))
        refine ax_aload_0 (pc := 15) C dX7_name_15 ?_
        refine ax_getI (pc := 16) C fX7_111 dX7_name_16 rfl rfl ?_
        refine ax_iconst (pc := 19) (v := 2) C dX7_name_19 (by decide) ?_
        refine ax_icmp_ne (pc := 20) (tgt := 56) C dX7_name_20 (by decide) (fun h20 => ?_) (fun h20 => ?_)
        · refine ax_aload_0 (pc := 56) C dX7_name_56 ?_
          refine ax_getI (pc := 57) C fX7_123 dX7_name_57 rfl rfl ?_
          refine ax_if_ne (pc := 60) (tgt := 67) C dX7_name_60 (by decide) (fun h60 => ?_) (fun h60 => ?_)
          · refine ax_lconst (pc := 67) (v := 0) C dX7_name_67 (by decide) ?_
            exact ax_lr (pc := 68) C rfl dX7_name_68 (by rw [if_neg h60]) rfl
          · refine ax_lload_1 (pc := 63) C dX7_name_63 ?_
            refine ax_goto (pc := 64) (tgt := 68) C dX7_name_64 (by decide) ?_
            exact ax_lr (pc := 68) C rfl dX7_name_68 (by
              rw [if_pos h60]
              have hk0 : k = 0 := Nat.eq_zero_of_not_pos (fun z => h20 (h1 z).1)
              subst hk0
              rw [if_neg (fun z => h20 z.1)]
              rfl) rfl
        · refine ax_aload_0 (pc := 23) C dX7_name_23 ?_
          refine ax_getI (pc := 24) C fX7_120 dX7_name_24 rfl rfl ?_
          refine ax_val C he ?_
          refine ax_aload_0 (pc := 27) C dX7_name_27 ?_
          refine ax_getI (pc := 28) C fX7_108 dX7_name_28 rfl rfl ?_
          refine ax_val C hs ?_
          refine ax_isub (pc := 31) C dX7_name_31 ?_
          refine ax_val C (pk_sub hse) ?_
          refine ax_bipush (pc := 32) (v := 8) C dX7_name_32 (by decide) ?_
          refine ax_icmp_ge (pc := 34) (tgt := 56) C dX7_name_34 (by decide) (fun h34 => ?_) (fun h34 => ?_)
          · have h34n : ¬ e - s < 8 := fun z => nI_ge (b := 8) z (by decide) h34
            refine ax_aload_0 (pc := 56) C dX7_name_56 ?_
            refine ax_getI (pc := 57) C fX7_123 dX7_name_57 rfl rfl ?_
            refine ax_if_ne (pc := 60) (tgt := 67) C dX7_name_60 (by decide) (fun h60 => ?_) (fun h60 => ?_)
            · refine ax_lconst (pc := 67) (v := 0) C dX7_name_67 (by decide) ?_
              exact ax_lr (pc := 68) C rfl dX7_name_68 (by rw [if_neg h60]) rfl
            · refine ax_lload_1 (pc := 63) C dX7_name_63 ?_
              refine ax_goto (pc := 64) (tgt := 68) C dX7_name_64 (by decide) ?_
              exact ax_lr (pc := 68) C rfl dX7_name_68 (by
                rw [if_pos h60]
                have hk0 : k = 0 := Nat.eq_zero_of_not_pos (fun z => h34n (h1 z).2)
                subst hk0
                rw [if_neg (fun z => h34n z.2)]
                rfl) rfl
          · have h34n : e - s < 8 := Nat.lt_of_not_le (fun z => h34 (nI_le (a := 8) z (by omega)))
            refine ax_lload_1 (pc := 37) C dX7_name_37 ?_
            refine ax_bipush (pc := 38) (v := 8) C dX7_name_38 (by decide) ?_
            refine ax_lshl (pc := 40) C dX7_name_40 ?_
            refine ax_aload_0 (pc := 41) C dX7_name_41 ?_
            refine ax_getR (pc := 42) C fX7_28 dX7_name_42 rfl rfl ?_
            refine ax_iload_3 (pc := 45) C dX7_name_45 ?_
            refine ax_ian (pc := 46) C dX7_name_46 rfl (by omega) (by decide) ?_
            refine ax_i2l (pc := 47) C dX7_name_47 ?_
            refine ax_lor (pc := 48) C dX7_name_48 ?_
            refine ax_lstore_1 (pc := 49) C dX7_name_49 rfl ?_
            refine ax_iinc_3 (pc := 50) C dX7_name_50 (1) (by decide) rfl ?_
            refine ax_goto (pc := 53) (tgt := 7) C dX7_name_53 (by decide) ?_
            refine ax_Leq (by rw [nI_1]; rfl) (ih (k + 1) (by omega) (fun _ => ⟨h20, h34n⟩) (by omega))
  refine ax_lconst (pc := 0) (v := 0) C dX7_name_0 (by decide) ?_
  refine ax_lstore_1 (pc := 1) C dX7_name_1 rfl ?_
  refine ax_aload_0 (pc := 2) C dX7_name_2 ?_
  refine ax_getI (pc := 3) C fX7_108 dX7_name_3 rfl rfl ?_
  refine ax_val C hs ?_
  refine ax_istore_3 (pc := 6) C dX7_name_6 rfl ?_
  exact loop (e - s + 1) 0 (by omega) (fun z => absurd z (by decide)) (by omega)
