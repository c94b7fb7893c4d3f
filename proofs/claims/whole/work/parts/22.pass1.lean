theorem hs_kd (k : Int32) : k = 2 ∨ k = 3 ∨ k = 4 ∨ k = 5 ∨ (k.toInt < 2 ∨ 5 < k.toInt) := by
  by_cases h2 : k = 2
  · exact Or.inl h2
  by_cases h3 : k = 3
  · exact Or.inr (Or.inl h3)
  by_cases h4 : k = 4
  · exact Or.inr (Or.inr (Or.inl h4))
  by_cases h5 : k = 5
  · exact Or.inr (Or.inr (Or.inr (Or.inl h5)))
  have e2 : ¬ k.toInt = 2 := lv_neT h2 rfl
  have e3 : ¬ k.toInt = 3 := lv_neT h3 rfl
  have e4 : ¬ k.toInt = 4 := lv_neT h4 rfl
  have e5 : ¬ k.toInt = 5 := lv_neT h5 rfl
  exact Or.inr (Or.inr (Or.inr (Or.inr (by omega))))
theorem hs_kd_ne {k : Int32} (h : k.toInt < 2 ∨ 5 < k.toInt) : ¬ k = 5 ∧ ¬ k = 3 ∧ ¬ k = 2 := by
  refine ⟨fun e => ?_, fun e => ?_, fun e => ?_⟩ <;> subst e <;> exact absurd h (by decide)
def fN (o : Option Nat) : Int32 := match o with
  | none => 0
  | some f => nI f
def fA (o : Option Nat) : Int32 := match o with
  | none => 0
  | some _ => 1
theorem hs_tix {k : Nat} (h0 : 0 < k) (h : k < 100) : (if (6 : Int32) < nI k then 6 else nI k) - 1 = nI (min k 6 - 1) := by
  have e6 : (6 : Int32) = nI 6 := rfl
  have e1 : (1 : Int32) = nI 1 := rfl
  by_cases hk : 6 < k
  · rw [e6, if_pos (nI_lt hk (by omega)), Nat.min_eq_right (by omega)]
    rfl
  · rw [e6, if_neg (nI_nlt (by omega) (by omega)), Nat.min_eq_left (by omega), e1, pk_sub (by omega)]
abbrev hp_st (σ : ax_Z) (p : Nat) : Nat → Bool := hs_st (σ (p + 3)) (σ (p + 6)) (σ p 11)
abbrev hp_rd (σ : ax_Z) (p n : Nat) : Nat → Bool := hs_rd (σ (p + 2)) (σ (p + 3)) (σ (p + 5)) (σ (p + 6)) (σ p 11) n
abbrev hp_tr (σ : ax_Z) (p n : Nat) : Nat → Bool := hs_tr (σ (p + 2)) (σ (p + 3)) (σ (p + 5)) (σ (p + 6)) (σ p 11) n
abbrev hp_ah (σ : ax_Z) (p : Nat) : Nat → Nat → Bool := hs_ah (σ (p + 2)) (σ (p + 3)) (σ (p + 8))
abbrev hp_f (σ : ax_Z) (p n : Nat) : Option Nat := hs_f (hp_rd σ p n) (hp_ah σ p) n
/-- an hour goes by in the pass at p -/
def hp_go (σ : ax_Z) (p n h : Nat) : ax_Z := match hp_f σ p n with
  | none => ax_up σ p 11 (nI (h + 1))
  | some f => ax_up (hs_gone (ax_up (ax_up σ (p + 9) h (nI f)) (p + 7) f (hs_toll (σ (p + 1)) (ms_c (hp_tr σ p n) n))) (p + 6) (hp_tr σ p n) (nI h) n) p 11 (nI (h + 1))
def hp_tm (σ : ax_Z) (p n : Nat) : Nat := match hp_f σ p n with
  | none => 0
  | some _ => ms_k (hp_tr σ p n) n

set_option maxRecDepth 20000 in
set_option maxHeartbeats 4000000 in
theorem w_X3_standing {Y : ax_Y} {ad : Nat → Nat} (F : ax_F Y) {l : Launch} {σ : ax_Z} {p n : Nat} (hp : ax_isP p) (hn : σ p 10 = nI n) (h7 : n ≤ 7) : ax_m Y ad l iX3_standing 0 σ [.ref (ad p)] (some (.int (nI (ms_k (hp_st σ p) n)))) σ := by
  refine ax_m.of F kX3_standing.1 [some (.ref (ad p)), none, none] rfl (Nat.le_of_ble_eq_true rfl) (fun x C => ?_)
  have loop : ∀ (q : Nat) (c : Nat), c ≤ n → n < c + q → ax_S x Y ad 0 0 (ax_Q x Y ad (some (.int (nI (ms_k (hp_st σ p) n)))) 96 (ax_g Y ad σ) 0 0) σ 4 [some (.ref (ad p)), some (.int (nI (ms_k (hp_st σ p) c))), some (.int (nI c))] [] := by
    intro q
    induction q with
    | zero => intro c h1 h2; exfalso; omega
    | succ q ih =>
      intro c h1 h2
      refine ax_iload_2 (pc := 4) C dX3_standing_4 ?_
      refine ax_aload_0 (pc := 5) C dX3_standing_5 ?_
      refine ax_getI (pc := 6) C fX3_47 dX3_standing_6 hp.o rfl ?_
      refine ax_icmp_ge (pc := 9) (tgt := 48) C dX3_standing_9 (by decide) (fun h9 => ?_) (fun h9 => ?_)
      · have hcn : ¬ c < n := fun q => nI_ge q (by omega) (by rw [← hn]; exact h9)
        refine ax_iload_1 (pc := 48) C dX3_standing_48 ?_
        exact ax_ir (pc := 49) C rfl dX3_standing_49 (by rw [show c = n by omega]) rfl
      · have hcn : c < n := Nat.lt_of_not_le (fun q => h9 (by rw [hn]; exact nI_le q (by omega)))
        refine ax_aload_0 (pc := 12) C dX3_standing_12 ?_
        refine ax_getR (pc := 13) C fX3_18 dX3_standing_13 hp.o rfl ?_
        refine ax_iload_2 (pc := 16) C dX3_standing_16 ?_
        refine ax_ian (pc := 17) C dX3_standing_17 hp.a3 (by omega) (by omega) ?_
        refine ax_aload_0 (pc := 18) C dX3_standing_18 ?_
        refine ax_getI (pc := 19) C fX3_51 dX3_standing_19 hp.o rfl ?_
        refine ax_icmp_gt (pc := 22) (tgt := 42) C dX3_standing_22 (by decide) (fun h22 => ?_) (fun h22 => ?_)
        · refine ax_iinc_2 (pc := 42) C dX3_standing_42 (1) (by decide) rfl ?_
          refine ax_goto (pc := 45) (tgt := 4) C dX3_standing_45 (by decide) ?_
          have hst : ¬ hp_st σ p c = true := by simp_all [hs_st, ← Int32.not_lt]
          refine ax_Leq ?_ (ih (c + 1) (by omega) (by omega))
          rw [ms_skip hst, nI_1]
        · refine ax_aload_0 (pc := 25) C dX3_standing_25 ?_
          refine ax_getR (pc := 26) C fX3_27 dX3_standing_26 hp.o rfl ?_
          refine ax_iload_2 (pc := 29) C dX3_standing_29 ?_
          refine ax_ian (pc := 30) C dX3_standing_30 hp.a6 (by omega) (by omega) ?_
          refine ax_ldc (pc := 31) C dX3_standing_31 qX3_66 ?_
          refine ax_icmp_ne (pc := 33) (tgt := 42) C dX3_standing_33 (by decide) (fun h33 => ?_) (fun h33 => ?_)
          · refine ax_iinc_2 (pc := 42) C dX3_standing_42 (1) (by decide) rfl ?_
            refine ax_goto (pc := 45) (tgt := 4) C dX3_standing_45 (by decide) ?_
            have hst : ¬ hp_st σ p c = true := by simp_all [hs_st, ← Int32.not_lt]
            refine ax_Leq ?_ (ih (c + 1) (by omega) (by omega))
            rw [ms_skip hst, nI_1]
          · refine ax_iload_1 (pc := 36) C dX3_standing_36 ?_
            refine ax_iconst (pc := 37) (v := 1) C dX3_standing_37 (by decide) ?_
            refine ax_iload_2 (pc := 38) C dX3_standing_38 ?_
            refine ax_ishl (pc := 39) C dX3_standing_39 ?_
            refine ax_ior (pc := 40) C dX3_standing_40 ?_
            refine ax_istore_1 (pc := 41) C dX3_standing_41 rfl ?_
            refine ax_iinc_2 (pc := 42) C dX3_standing_42 (1) (by decide) rfl ?_
            refine ax_goto (pc := 45) (tgt := 4) C dX3_standing_45 (by decide) ?_
            have hst : hp_st σ p c = true := by simp_all [hs_st, ← Int32.not_lt]
            refine ax_Leq ?_ (ih (c + 1) (by omega) (by omega))
            rw [ms_add (by omega) hst, nI_1]
  refine ax_iconst (pc := 0) (v := 0) C dX3_standing_0 (by decide) ?_
  refine ax_istore_1 (pc := 1) C dX3_standing_1 rfl ?_
  refine ax_iconst (pc := 2) (v := 0) C dX3_standing_2 (by decide) ?_
  refine ax_istore_2 (pc := 3) C dX3_standing_3 rfl ?_
  exact loop (n + 1) 0 (by omega) (by omega)

set_option maxRecDepth 20000 in
set_option maxHeartbeats 4000000 in
theorem w_X3_isReady {Y : ax_Y} {ad : Nat → Nat} (F : ax_F Y) {l : Launch} {σ : ax_Z} {p c : Nat} (hp : ax_isP p) (hc : c < 7) {en : Bool} : ax_m Y ad l iX3_isReady 0 σ [.ref (ad p), .int (nI c), .int (ax_b (en = true))] (some (.int (ax_b (hs_r1 (σ (p + 2)) (σ (p + 3)) (σ (p + 5)) (σ p 11) en c = true)))) σ := by
  refine ax_m.of F kX3_isReady.1 [some (.ref (ad p)), some (.int (nI c)), some (.int (ax_b (en = true))), none] rfl (Nat.le_of_ble_eq_true rfl) (fun x C => ?_)
  refine ax_aload_0 (pc := 0) C dX3_isReady_0 ?_
  refine ax_getI (pc := 1) C fX3_51 dX3_isReady_1 hp.o rfl ?_
  refine ax_aload_0 (pc := 4) C dX3_isReady_4 ?_
  refine ax_getR (pc := 5) C fX3_18 dX3_isReady_5 hp.o rfl ?_
  refine ax_iload_1 (pc := 8) C dX3_isReady_8 ?_
  refine ax_ian (pc := 9) C dX3_isReady_9 hp.a3 (by omega) (by omega) ?_
  refine ax_aload_0 (pc := 10) C dX3_isReady_10 ?_
  refine ax_getR (pc := 11) C fX3_24 dX3_isReady_11 hp.o rfl ?_
  refine ax_iload_1 (pc := 14) C dX3_isReady_14 ?_
  refine ax_ian (pc := 15) C dX3_isReady_15 hp.a5 (by omega) (by omega) ?_
  refine ax_iadd (pc := 16) C dX3_isReady_16 ?_
  refine ax_icmp_lt (pc := 17) (tgt := 24) C dX3_isReady_17 (by decide) (fun h17 => ?_) (fun h17 => ?_)
  · refine ax_iconst (pc := 24) (v := 0) C dX3_isReady_24 (by decide) ?_
    refine ax_istore_3 (pc := 25) C dX3_isReady_25 rfl ?_
    refine ax_aload_0 (pc := 26) C dX3_isReady_26 ?_
    refine ax_getR (pc := 27) C fX3_15 dX3_isReady_27 hp.o rfl ?_
    refine ax_iload_1 (pc := 30) C dX3_isReady_30 ?_
    refine ax_ian (pc := 31) C dX3_isReady_31 hp.a2 (by omega) (by omega) ?_
    rcases hs_kd (σ (p + 2) c) with hk | hk | hk | hk | hk
    · refine ax_val C hk ?_
      refine ax_tabIn (pc := 32) (off := 36) (tgt := 68) C dX3_isReady_32 (by decide) (by decide) (by decide) (by decide) ?_
      refine ax_iload_3 (pc := 68) C dX3_isReady_68 ?_
      refine ax_if_ne (pc := 69) (tgt := 76) C dX3_isReady_69 (by decide) (fun h69 => ?_) (fun h69 => ?_)
      · refine ax_iconst (pc := 76) (v := 1) C dX3_isReady_76 (by decide) ?_
        refine ax_goto (pc := 77) (tgt := 81) C dX3_isReady_77 (by decide) ?_
        exact ax_zr (pc := 81) C rfl (by first | rfl | (unfold ax_b; split <;> rfl)) dX3_isReady_81 (by simp_all [hs_r1, ax_b, ← Int32.not_lt]) rfl
      · refine ax_iload_2 (pc := 72) C dX3_isReady_72 ?_
        refine ax_if_eq (pc := 73) (tgt := 80) C dX3_isReady_73 (by decide) (fun h73 => ?_) (fun h73 => ?_)
        · refine ax_iconst (pc := 80) (v := 0) C dX3_isReady_80 (by decide) ?_
          exact ax_zr (pc := 81) C rfl (by first | rfl | (unfold ax_b; split <;> rfl)) dX3_isReady_81 (by simp_all [hs_r1, ax_b, ← Int32.not_lt]) rfl
        · refine ax_iconst (pc := 76) (v := 1) C dX3_isReady_76 (by decide) ?_
          refine ax_goto (pc := 77) (tgt := 81) C dX3_isReady_77 (by decide) ?_
          exact ax_zr (pc := 81) C rfl (by first | rfl | (unfold ax_b; split <;> rfl)) dX3_isReady_81 (by simp_all [hs_r1, ax_b, ← Int32.not_lt]) rfl
    · refine ax_val C hk ?_
      refine ax_tabIn (pc := 32) (off := 34) (tgt := 66) C dX3_isReady_32 (by decide) (by decide) (by decide) (by decide) ?_
      refine ax_iconst (pc := 66) (v := 0) C dX3_isReady_66 (by decide) ?_
      exact ax_zr (pc := 67) C rfl (by first | rfl | (unfold ax_b; split <;> rfl)) dX3_isReady_67 (by simp_all [hs_r1, ax_b, ← Int32.not_lt]) rfl
    · refine ax_val C hk ?_
      refine ax_tabIn (pc := 32) (off := 50) (tgt := 82) C dX3_isReady_32 (by decide) (by decide) (by decide) (by decide) ?_
      refine ax_iload_3 (pc := 82) C dX3_isReady_82 ?_
      exact ax_zr (pc := 83) C rfl (by first | rfl | (unfold ax_b; split <;> rfl)) dX3_isReady_83 (by simp_all [hs_r1, ax_b, ← Int32.not_lt]) rfl
    · refine ax_val C hk ?_
      refine ax_tabIn (pc := 32) (off := 32) (tgt := 64) C dX3_isReady_32 (by decide) (by decide) (by decide) (by decide) ?_
      refine ax_iconst (pc := 64) (v := 1) C dX3_isReady_64 (by decide) ?_
      exact ax_zr (pc := 65) C rfl (by first | rfl | (unfold ax_b; split <;> rfl)) dX3_isReady_65 (by simp_all [hs_r1, ax_b, ← Int32.not_lt]) rfl
    · obtain ⟨k5, k3, k2⟩ := hs_kd_ne hk
      refine ax_tabOut (pc := 32) (tgt := 82) C dX3_isReady_32 hk (by decide) ?_
      refine ax_iload_3 (pc := 82) C dX3_isReady_82 ?_
      exact ax_zr (pc := 83) C rfl (by first | rfl | (unfold ax_b; split <;> rfl)) dX3_isReady_83 (by simp_all [hs_r1, ax_b, ← Int32.not_lt]) rfl
  · refine ax_iconst (pc := 20) (v := 1) C dX3_isReady_20 (by decide) ?_
    refine ax_goto (pc := 21) (tgt := 25) C dX3_isReady_21 (by decide) ?_
    refine ax_istore_3 (pc := 25) C dX3_isReady_25 rfl ?_
    refine ax_aload_0 (pc := 26) C dX3_isReady_26 ?_
    refine ax_getR (pc := 27) C fX3_15 dX3_isReady_27 hp.o rfl ?_
    refine ax_iload_1 (pc := 30) C dX3_isReady_30 ?_
    refine ax_ian (pc := 31) C dX3_isReady_31 hp.a2 (by omega) (by omega) ?_
    rcases hs_kd (σ (p + 2) c) with hk | hk | hk | hk | hk
    · refine ax_val C hk ?_
      refine ax_tabIn (pc := 32) (off := 36) (tgt := 68) C dX3_isReady_32 (by decide) (by decide) (by decide) (by decide) ?_
      refine ax_iload_3 (pc := 68) C dX3_isReady_68 ?_
      refine ax_if_ne (pc := 69) (tgt := 76) C dX3_isReady_69 (by decide) (fun h69 => ?_) (fun h69 => ?_)
      · refine ax_iconst (pc := 76) (v := 1) C dX3_isReady_76 (by decide) ?_
        refine ax_goto (pc := 77) (tgt := 81) C dX3_isReady_77 (by decide) ?_
        exact ax_zr (pc := 81) C rfl (by first | rfl | (unfold ax_b; split <;> rfl)) dX3_isReady_81 (by simp_all [hs_r1, ax_b, ← Int32.not_lt]) rfl
      · refine ax_iload_2 (pc := 72) C dX3_isReady_72 ?_
        refine ax_if_eq (pc := 73) (tgt := 80) C dX3_isReady_73 (by decide) (fun h73 => ?_) (fun h73 => ?_)
        · refine ax_iconst (pc := 80) (v := 0) C dX3_isReady_80 (by decide) ?_
          exact ax_zr (pc := 81) C rfl (by first | rfl | (unfold ax_b; split <;> rfl)) dX3_isReady_81 (by simp_all [hs_r1, ax_b, ← Int32.not_lt]) rfl
        · refine ax_iconst (pc := 76) (v := 1) C dX3_isReady_76 (by decide) ?_
          refine ax_goto (pc := 77) (tgt := 81) C dX3_isReady_77 (by decide) ?_
          exact ax_zr (pc := 81) C rfl (by first | rfl | (unfold ax_b; split <;> rfl)) dX3_isReady_81 (by simp_all [hs_r1, ax_b, ← Int32.not_lt]) rfl
    · refine ax_val C hk ?_
      refine ax_tabIn (pc := 32) (off := 34) (tgt := 66) C dX3_isReady_32 (by decide) (by decide) (by decide) (by decide) ?_
      refine ax_iconst (pc := 66) (v := 0) C dX3_isReady_66 (by decide) ?_
      exact ax_zr (pc := 67) C rfl (by first | rfl | (unfold ax_b; split <;> rfl)) dX3_isReady_67 (by simp_all [hs_r1, ax_b, ← Int32.not_lt]) rfl
    · refine ax_val C hk ?_
      refine ax_tabIn (pc := 32) (off := 50) (tgt := 82) C dX3_isReady_32 (by decide) (by decide) (by decide) (by decide) ?_
      refine ax_iload_3 (pc := 82) C dX3_isReady_82 ?_
      exact ax_zr (pc := 83) C rfl (by first | rfl | (unfold ax_b; split <;> rfl)) dX3_isReady_83 (by simp_all [hs_r1, ax_b, ← Int32.not_lt]) rfl
    · refine ax_val C hk ?_
      refine ax_tabIn (pc := 32) (off := 32) (tgt := 64) C dX3_isReady_32 (by decide) (by decide) (by decide) (by decide) ?_
      refine ax_iconst (pc := 64) (v := 1) C dX3_isReady_64 (by decide) ?_
      exact ax_zr (pc := 65) C rfl (by first | rfl | (unfold ax_b; split <;> rfl)) dX3_isReady_65 (by simp_all [hs_r1, ax_b, ← Int32.not_lt]) rfl
    · obtain ⟨k5, k3, k2⟩ := hs_kd_ne hk
      refine ax_tabOut (pc := 32) (tgt := 82) C dX3_isReady_32 hk (by decide) ?_
      refine ax_iload_3 (pc := 82) C dX3_isReady_82 ?_
      exact ax_zr (pc := 83) C rfl (by first | rfl | (unfold ax_b; split <;> rfl)) dX3_isReady_83 (by simp_all [hs_r1, ax_b, ← Int32.not_lt]) rfl

set_option maxRecDepth 20000 in
set_option maxHeartbeats 4000000 in
theorem w_X3_readyOf {Y : ax_Y} {ad : Nat → Nat} (F : ax_F Y) {l : Launch} {σ : ax_Z} {p n : Nat} (hp : ax_isP p) (hn : σ p 10 = nI n) (h7 : n ≤ 7) (st : Nat → Bool) : ax_m Y ad l iX3_readyOf 1 σ [.ref (ad p), .int (nI (ms_k st n))] (some (.int (nI (ms_k (fun c => st c && (decide (σ p 11 = 11) || hs_r1 (σ (p + 2)) (σ (p + 3)) (σ (p + 5)) (σ p 11) (decide (3 ≤ ms_c st n)) c)) n)))) σ := by
  refine ax_m.of F kX3_readyOf.1 [some (.ref (ad p)), some (.int (nI (ms_k st n))), none, none, none] rfl (Nat.le_of_ble_eq_true rfl) (fun x C => ?_)
  have cont : ¬ σ p 11 = 11 → ax_S x Y ad 0 0 (ax_Q x Y ad (some (.int (nI (ms_k (fun c => st c && (decide (σ p 11 = 11) || hs_r1 (σ (p + 2)) (σ (p + 3)) (σ (p + 5)) (σ p 11) (decide (3 ≤ ms_c st n)) c)) n)))) 96 (ax_g Y ad σ) 0 0) σ 25 [some (.ref (ad p)), some (.int (nI (ms_k st n))), some (.int (ax_b (decide (3 ≤ ms_c st n) = true))), none, none] [] := by
    intro h11
    have loop : ∀ (q : Nat) (c : Nat), c ≤ n → n < c + q → ax_S x Y ad 0 0 (ax_Q x Y ad (some (.int (nI (ms_k (fun c => st c && (decide (σ p 11 = 11) || hs_r1 (σ (p + 2)) (σ (p + 3)) (σ (p + 5)) (σ p 11) (decide (3 ≤ ms_c st n)) c)) n)))) 96 (ax_g Y ad σ) 0 0) σ 30 [some (.ref (ad p)), some (.int (nI (ms_k st n))), some (.int (ax_b (decide (3 ≤ ms_c st n) = true))), some (.int (nI (ms_k (fun c => st c && (decide (σ p 11 = 11) || hs_r1 (σ (p + 2)) (σ (p + 3)) (σ (p + 5)) (σ p 11) (decide (3 ≤ ms_c st n)) c)) c))), some (.int (nI c))] [] := by
      intro q
      induction q with
      | zero => intro c h1 h2; exfalso; omega
      | succ q ih =>
        intro c h1 h2
        refine ax_iload_4 (pc := 30) C dX3_readyOf_30 ?_
        refine ax_aload_0 (pc := 32) C dX3_readyOf_32 ?_
        refine ax_getI (pc := 33) C fX3_47 dX3_readyOf_33 hp.o rfl ?_
        refine ax_icmp_ge (pc := 36) (tgt := 71) C dX3_readyOf_36 (by decide) (fun h36 => ?_) (fun h36 => ?_)
        · have hcn : ¬ c < n := fun q => nI_ge q (by omega) (by rw [← hn]; exact h36)
          refine ax_iload_3 (pc := 71) C dX3_readyOf_71 ?_
          exact ax_ir (pc := 72) C rfl dX3_readyOf_72 (by rw [show c = n by omega]) rfl
        · have hcn : c < n := Nat.lt_of_not_le (fun q => h36 (by rw [hn]; exact nI_le q (by omega)))
          refine ax_iload_1 (pc := 39) C dX3_readyOf_39 ?_
          refine ax_iload_4 (pc := 40) C dX3_readyOf_40 ?_
          refine ax_ishr (pc := 42) C dX3_readyOf_42 ?_
          refine ax_iconst (pc := 43) (v := 1) C dX3_readyOf_43 (by decide) ?_
          refine ax_iand (pc := 44) C dX3_readyOf_44 ?_
          refine ax_if_eq (pc := 45) (tgt := 65) C dX3_readyOf_45 (by decide) (fun h45 => ?_) (fun h45 => ?_)
          · rw [ms_test hcn (by omega)] at h45
            refine ax_iinc_4 (pc := 65) C dX3_readyOf_65 (1) (by decide) rfl ?_
            refine ax_goto (pc := 68) (tgt := 30) C dX3_readyOf_68 (by decide) ?_
            have hst : ¬ (fun c => st c && (decide (σ p 11 = 11) || hs_r1 (σ (p + 2)) (σ (p + 3)) (σ (p + 5)) (σ p 11) (decide (3 ≤ ms_c st n)) c)) c = true := by simp_all
            refine ax_Leq ?_ (ih (c + 1) (by omega) (by omega))
            rw [ms_skip hst, nI_1]
          · rw [ms_test hcn (by omega)] at h45
            refine ax_aload_0 (pc := 48) C dX3_readyOf_48 ?_
            refine ax_iload_4 (pc := 49) C dX3_readyOf_49 ?_
            refine ax_iload_2 (pc := 51) C dX3_readyOf_51 ?_
            refine ax_callVi (pc := 52) C (w_X3_isReady F hp (by omega)) kX3_isReady mX3_109 dX3_readyOf_52 (by decide) rfl hp.o rfl rfl rfl (Nat.le_of_ble_eq_true rfl) rfl ⟨Nat.le_refl _, Nat.le_refl _⟩ ?_
            refine ax_if_eq (pc := 55) (tgt := 65) C dX3_readyOf_55 (by decide) (fun h55 => ?_) (fun h55 => ?_)
            · have h55 := ax_beq h55
              refine ax_iinc_4 (pc := 65) C dX3_readyOf_65 (1) (by decide) rfl ?_
              refine ax_goto (pc := 68) (tgt := 30) C dX3_readyOf_68 (by decide) ?_
              have hst : ¬ (fun c => st c && (decide (σ p 11 = 11) || hs_r1 (σ (p + 2)) (σ (p + 3)) (σ (p + 5)) (σ p 11) (decide (3 ≤ ms_c st n)) c)) c = true := by simp_all
              refine ax_Leq ?_ (ih (c + 1) (by omega) (by omega))
              rw [ms_skip hst, nI_1]
            · have h55 := ax_bne h55
              refine ax_iload_3 (pc := 58) C dX3_readyOf_58 ?_
              refine ax_iconst (pc := 59) (v := 1) C dX3_readyOf_59 (by decide) ?_
              refine ax_iload_4 (pc := 60) C dX3_readyOf_60 ?_
              refine ax_ishl (pc := 62) C dX3_readyOf_62 ?_
              refine ax_ior (pc := 63) C dX3_readyOf_63 ?_
              refine ax_istore_3 (pc := 64) C dX3_readyOf_64 rfl ?_
              refine ax_iinc_4 (pc := 65) C dX3_readyOf_65 (1) (by decide) rfl ?_
              refine ax_goto (pc := 68) (tgt := 30) C dX3_readyOf_68 (by decide) ?_
              have hst : (fun c => st c && (decide (σ p 11 = 11) || hs_r1 (σ (p + 2)) (σ (p + 3)) (σ (p + 5)) (σ p 11) (decide (3 ≤ ms_c st n)) c)) c = true := by simp_all
              refine ax_Leq ?_ (ih (c + 1) (by omega) (by omega))
              rw [ms_add (by omega) hst, nI_1]
    refine ax_iconst (pc := 25) (v := 0) C dX3_readyOf_25 (by decide) ?_
    refine ax_istore_3 (pc := 26) C dX3_readyOf_26 rfl ?_
    refine ax_iconst (pc := 27) (v := 0) C dX3_readyOf_27 (by decide) ?_
    refine ax_istore_4 (pc := 28) C dX3_readyOf_28 rfl ?_
    exact loop (n + 1) 0 (by omega) (by omega)
  refine ax_aload_0 (pc := 0) C dX3_readyOf_0 ?_
  refine ax_getI (pc := 1) C fX3_51 dX3_readyOf_1 hp.o rfl ?_
  refine ax_bipush (pc := 4) (v := 11) C dX3_readyOf_4 (by decide) ?_
  refine ax_icmp_ne (pc := 6) (tgt := 11) C dX3_readyOf_6 (by decide) (fun h6 => ?_) (fun h6 => ?_)
  · have cont := cont h6
    have hcc := ms_c_le st n
    refine ax_iload_1 (pc := 11) C dX3_readyOf_11 ?_
    refine ax_callSi (pc := 12) C (w_J6_bitCount_0f7a4 F) kJ6_bitCount_0f7a4 mX3_97 dX3_readyOf_12 (by decide) rfl rfl (Nat.le_of_ble_eq_true rfl) rfl ⟨Nat.le_refl _, Nat.le_refl _⟩ ?_
    refine ax_iconst (pc := 15) (v := 3) C dX3_readyOf_15 (by decide) ?_
    refine ax_icmp_lt (pc := 16) (tgt := 23) C dX3_readyOf_16 (by decide) (fun h16 => ?_) (fun h16 => ?_)
    · rw [jd_bc_ms st h7] at h16
      have h3 : ¬ 3 ≤ ms_c st n := fun q => nI_nlt (a := ms_c st n) (b := 3) q (by omega) h16
      rw [show ax_b (decide (3 ≤ ms_c st n) = true) = 0 from ax_b0 (by simp [h3])] at cont
      refine ax_iconst (pc := 23) (v := 0) C dX3_readyOf_23 (by decide) ?_
      refine ax_istore_2 (pc := 24) C dX3_readyOf_24 rfl ?_
      exact cont
    · rw [jd_bc_ms st h7] at h16
      have h3 : 3 ≤ ms_c st n := Nat.le_of_not_lt (fun q => h16 (nI_lt (b := 3) q (by omega)))
      rw [show ax_b (decide (3 ≤ ms_c st n) = true) = 1 from ax_b1 (by simp [h3])] at cont
      refine ax_iconst (pc := 19) (v := 1) C dX3_readyOf_19 (by decide) ?_
      refine ax_goto (pc := 20) (tgt := 24) C dX3_readyOf_20 (by decide) ?_
      refine ax_istore_2 (pc := 24) C dX3_readyOf_24 rfl ?_
      exact cont
  · have hx11 : σ p 11 = 11 := h6
    refine ax_iload_1 (pc := 9) C dX3_readyOf_9 ?_
    exact ax_ir (pc := 10) C rfl dX3_readyOf_10 (by rw [ms_congr (g := st)]; intro c hc; simp [hx11]) rfl

set_option maxRecDepth 20000 in
set_option maxHeartbeats 4000000 in
theorem w_X3_followersOf {Y : ax_Y} {ad : Nat → Nat} (F : ax_F Y) {l : Launch} {σ : ax_Z} {p n : Nat} (hp : ax_isP p) (hn : σ p 10 = nI n) (h7 : n ≤ 7) (st : Nat → Bool) : ax_m Y ad l iX3_followersOf 0 σ [.ref (ad p), .int (nI (ms_k st n))] (some (.int (nI (ms_k (fun c => hs_fo (σ (p + 2)) c && st c) n)))) σ := by
  refine ax_m.of F kX3_followersOf.1 [some (.ref (ad p)), some (.int (nI (ms_k st n))), none, none] rfl (Nat.le_of_ble_eq_true rfl) (fun x C => ?_)
  have loop : ∀ (q : Nat) (c : Nat), c ≤ n → n < c + q → ax_S x Y ad 0 0 (ax_Q x Y ad (some (.int (nI (ms_k (fun c => hs_fo (σ (p + 2)) c && st c) n)))) 96 (ax_g Y ad σ) 0 0) σ 4 [some (.ref (ad p)), some (.int (nI (ms_k st n))), some (.int (nI (ms_k (hs_fo (σ (p + 2))) c))), some (.int (nI c))] [] := by
    intro q
    induction q with
    | zero => intro c h1 h2; exfalso; omega
    | succ q ih =>
      intro c h1 h2
      refine ax_iload_3 (pc := 4) C dX3_followersOf_4 ?_
      refine ax_aload_0 (pc := 5) C dX3_followersOf_5 ?_
      refine ax_getI (pc := 6) C fX3_47 dX3_followersOf_6 hp.o rfl ?_
      refine ax_icmp_ge (pc := 9) (tgt := 54) C dX3_followersOf_9 (by decide) (fun h9 => ?_) (fun h9 => ?_)
      · have hcn : ¬ c < n := fun q => nI_ge q (by omega) (by rw [← hn]; exact h9)
        refine ax_iload_2 (pc := 54) C dX3_followersOf_54 ?_
        refine ax_iload_1 (pc := 55) C dX3_followersOf_55 ?_
        refine ax_iand (pc := 56) C dX3_followersOf_56 ?_
        exact ax_ir (pc := 57) C rfl dX3_followersOf_57 (by rw [show c = n by omega, nI_and, ms_and]) rfl
      · have hcn : c < n := Nat.lt_of_not_le (fun q => h9 (by rw [hn]; exact nI_le q (by omega)))
        refine ax_aload_0 (pc := 12) C dX3_followersOf_12 ?_
        refine ax_getR (pc := 13) C fX3_15 dX3_followersOf_13 hp.o rfl ?_
        refine ax_iload_3 (pc := 16) C dX3_followersOf_16 ?_
        refine ax_ian (pc := 17) C dX3_followersOf_17 hp.a2 (by omega) (by omega) ?_
        refine ax_iconst (pc := 18) (v := 1) C dX3_followersOf_18 (by decide) ?_
        refine ax_icmp_eq (pc := 19) (tgt := 42) C dX3_followersOf_19 (by decide) (fun h19 => ?_) (fun h19 => ?_)
        · refine ax_iload_2 (pc := 42) C dX3_followersOf_42 ?_
          refine ax_iconst (pc := 43) (v := 1) C dX3_followersOf_43 (by decide) ?_
          refine ax_iload_3 (pc := 44) C dX3_followersOf_44 ?_
          refine ax_ishl (pc := 45) C dX3_followersOf_45 ?_
          refine ax_ior (pc := 46) C dX3_followersOf_46 ?_
          refine ax_istore_2 (pc := 47) C dX3_followersOf_47 rfl ?_
          refine ax_iinc_3 (pc := 48) C dX3_followersOf_48 (1) (by decide) rfl ?_
          refine ax_goto (pc := 51) (tgt := 4) C dX3_followersOf_51 (by decide) ?_
          have hst : hs_fo (σ (p + 2)) c = true := by simp_all [hs_fo]
          refine ax_Leq ?_ (ih (c + 1) (by omega) (by omega))
          rw [ms_add (by omega) hst, nI_1]
        · refine ax_aload_0 (pc := 22) C dX3_followersOf_22 ?_
          refine ax_getR (pc := 23) C fX3_15 dX3_followersOf_23 hp.o rfl ?_
          refine ax_iload_3 (pc := 26) C dX3_followersOf_26 ?_
          refine ax_ian (pc := 27) C dX3_followersOf_27 hp.a2 (by omega) (by omega) ?_
          refine ax_iconst (pc := 28) (v := 2) C dX3_followersOf_28 (by decide) ?_
          refine ax_icmp_eq (pc := 29) (tgt := 42) C dX3_followersOf_29 (by decide) (fun h29 => ?_) (fun h29 => ?_)
          · refine ax_iload_2 (pc := 42) C dX3_followersOf_42 ?_
            refine ax_iconst (pc := 43) (v := 1) C dX3_followersOf_43 (by decide) ?_
            refine ax_iload_3 (pc := 44) C dX3_followersOf_44 ?_
            refine ax_ishl (pc := 45) C dX3_followersOf_45 ?_
            refine ax_ior (pc := 46) C dX3_followersOf_46 ?_
            refine ax_istore_2 (pc := 47) C dX3_followersOf_47 rfl ?_
            refine ax_iinc_3 (pc := 48) C dX3_followersOf_48 (1) (by decide) rfl ?_
            refine ax_goto (pc := 51) (tgt := 4) C dX3_followersOf_51 (by decide) ?_
            have hst : hs_fo (σ (p + 2)) c = true := by simp_all [hs_fo]
            refine ax_Leq ?_ (ih (c + 1) (by omega) (by omega))
            rw [ms_add (by omega) hst, nI_1]
          · refine ax_aload_0 (pc := 32) C dX3_followersOf_32 ?_
            refine ax_getR (pc := 33) C fX3_15 dX3_followersOf_33 hp.o rfl ?_
            refine ax_iload_3 (pc := 36) C dX3_followersOf_36 ?_
            refine ax_ian (pc := 37) C dX3_followersOf_37 hp.a2 (by omega) (by omega) ?_
            refine ax_iconst (pc := 38) (v := 3) C dX3_followersOf_38 (by decide) ?_
            refine ax_icmp_ne (pc := 39) (tgt := 48) C dX3_followersOf_39 (by decide) (fun h39 => ?_) (fun h39 => ?_)
            · refine ax_iinc_3 (pc := 48) C dX3_followersOf_48 (1) (by decide) rfl ?_
              refine ax_goto (pc := 51) (tgt := 4) C dX3_followersOf_51 (by decide) ?_
              have hst : ¬ hs_fo (σ (p + 2)) c = true := by simp_all [hs_fo]
              refine ax_Leq ?_ (ih (c + 1) (by omega) (by omega))
              rw [ms_skip hst, nI_1]
            · refine ax_iload_2 (pc := 42) C dX3_followersOf_42 ?_
              refine ax_iconst (pc := 43) (v := 1) C dX3_followersOf_43 (by decide) ?_
              refine ax_iload_3 (pc := 44) C dX3_followersOf_44 ?_
              refine ax_ishl (pc := 45) C dX3_followersOf_45 ?_
              refine ax_ior (pc := 46) C dX3_followersOf_46 ?_
              refine ax_istore_2 (pc := 47) C dX3_followersOf_47 rfl ?_
              refine ax_iinc_3 (pc := 48) C dX3_followersOf_48 (1) (by decide) rfl ?_
              refine ax_goto (pc := 51) (tgt := 4) C dX3_followersOf_51 (by decide) ?_
              have hst : hs_fo (σ (p + 2)) c = true := by simp_all [hs_fo]
              refine ax_Leq ?_ (ih (c + 1) (by omega) (by omega))
              rw [ms_add (by omega) hst, nI_1]
  refine ax_iconst (pc := 0) (v := 0) C dX3_followersOf_0 (by decide) ?_
  refine ax_istore_2 (pc := 1) C dX3_followersOf_1 rfl ?_
  refine ax_iconst (pc := 2) (v := 0) C dX3_followersOf_2 (by decide) ?_
  refine ax_istore_3 (pc := 3) C dX3_followersOf_3 rfl ?_
  exact loop (n + 1) 0 (by omega) (by omega)

set_option maxRecDepth 20000 in
set_option maxHeartbeats 4000000 in
theorem w_X3_isAhead {Y : ax_Y} {ad : Nat → Nat} (F : ax_F Y) {l : Launch} {σ : ax_Z} {p c d : Nat} (hp : ax_isP p) (hc : c < 7) (hd : d < 7) : ax_m Y ad l iX3_isAhead 0 σ [.ref (ad p), .int (nI c), .int (nI d)] (some (.int (ax_b (hp_ah σ p c d = true)))) σ := by
  refine ax_m.of F kX3_isAhead.1 [some (.ref (ad p)), some (.int (nI c)), some (.int (nI d))] rfl (Nat.le_of_ble_eq_true rfl) (fun x C => ?_)
  refine ax_aload_0 (pc := 0) C dX3_isAhead_0 ?_
  refine ax_getR (pc := 1) C fX3_15 dX3_isAhead_1 hp.o rfl ?_
  refine ax_iload_1 (pc := 4) C dX3_isAhead_4 ?_
  refine ax_ian (pc := 5) C dX3_isAhead_5 hp.a2 (by omega) (by omega) ?_
  refine ax_iconst (pc := 6) (v := 3) C dX3_isAhead_6 (by decide) ?_
  refine ax_icmp_ne (pc := 7) (tgt := 14) C dX3_isAhead_7 (by decide) (fun h7 => ?_) (fun h7 => ?_)
  · refine ax_iconst (pc := 14) (v := 0) C dX3_isAhead_14 (by decide) ?_
    refine ax_aload_0 (pc := 15) C dX3_isAhead_15 ?_
    refine ax_getR (pc := 16) C fX3_15 dX3_isAhead_16 hp.o rfl ?_
    refine ax_iload_2 (pc := 19) C dX3_isAhead_19 ?_
    refine ax_ian (pc := 20) C dX3_isAhead_20 hp.a2 (by omega) (by omega) ?_
    refine ax_iconst (pc := 21) (v := 3) C dX3_isAhead_21 (by decide) ?_
    refine ax_icmp_ne (pc := 22) (tgt := 29) C dX3_isAhead_22 (by decide) (fun h22 => ?_) (fun h22 => ?_)
    · refine ax_iconst (pc := 29) (v := 0) C dX3_isAhead_29 (by decide) ?_
      refine ax_icmp_eq (pc := 30) (tgt := 49) C dX3_isAhead_30 (by decide) (fun h30 => ?_) (fun h30 => ?_)
      · refine ax_aload_0 (pc := 49) C dX3_isAhead_49 ?_
        refine ax_getR (pc := 50) C fX3_33 dX3_isAhead_50 hp.o rfl ?_
        refine ax_iload_1 (pc := 53) C dX3_isAhead_53 ?_
        refine ax_ian (pc := 54) C dX3_isAhead_54 hp.a8 (by omega) (by omega) ?_
        refine ax_aload_0 (pc := 55) C dX3_isAhead_55 ?_
        refine ax_getR (pc := 56) C fX3_33 dX3_isAhead_56 hp.o rfl ?_
        refine ax_iload_2 (pc := 59) C dX3_isAhead_59 ?_
        refine ax_ian (pc := 60) C dX3_isAhead_60 hp.a8 (by omega) (by omega) ?_
        refine ax_icmp_eq (pc := 61) (tgt := 85) C dX3_isAhead_61 (by decide) (fun h61 => ?_) (fun h61 => ?_)
        · refine ax_aload_0 (pc := 85) C dX3_isAhead_85 ?_
          refine ax_getR (pc := 86) C fX3_18 dX3_isAhead_86 hp.o rfl ?_
          refine ax_iload_1 (pc := 89) C dX3_isAhead_89 ?_
          refine ax_ian (pc := 90) C dX3_isAhead_90 hp.a3 (by omega) (by omega) ?_
          refine ax_aload_0 (pc := 91) C dX3_isAhead_91 ?_
          refine ax_getR (pc := 92) C fX3_18 dX3_isAhead_92 hp.o rfl ?_
          refine ax_iload_2 (pc := 95) C dX3_isAhead_95 ?_
          refine ax_ian (pc := 96) C dX3_isAhead_96 hp.a3 (by omega) (by omega) ?_
          refine ax_icmp_ge (pc := 97) (tgt := 104) C dX3_isAhead_97 (by decide) (fun h97 => ?_) (fun h97 => ?_)
          · refine ax_iconst (pc := 104) (v := 0) C dX3_isAhead_104 (by decide) ?_
            exact ax_zr (pc := 105) C rfl rfl dX3_isAhead_105 (by simp_all [hs_ah, ax_b, ← Int32.not_lt]) rfl
          · refine ax_iconst (pc := 100) (v := 1) C dX3_isAhead_100 (by decide) ?_
            refine ax_goto (pc := 101) (tgt := 105) C dX3_isAhead_101 (by decide) ?_
            exact ax_zr (pc := 105) C rfl rfl dX3_isAhead_105 (by simp_all [hs_ah, ax_b, ← Int32.not_lt]) rfl
        · refine ax_aload_0 (pc := 64) C dX3_isAhead_64 ?_
          refine ax_getR (pc := 65) C fX3_33 dX3_isAhead_65 hp.o rfl ?_
          refine ax_iload_1 (pc := 68) C dX3_isAhead_68 ?_
          refine ax_ian (pc := 69) C dX3_isAhead_69 hp.a8 (by omega) (by omega) ?_
          refine ax_aload_0 (pc := 70) C dX3_isAhead_70 ?_
          refine ax_getR (pc := 71) C fX3_33 dX3_isAhead_71 hp.o rfl ?_
          refine ax_iload_2 (pc := 74) C dX3_isAhead_74 ?_
          refine ax_ian (pc := 75) C dX3_isAhead_75 hp.a8 (by omega) (by omega) ?_
          refine ax_icmp_ge (pc := 76) (tgt := 83) C dX3_isAhead_76 (by decide) (fun h76 => ?_) (fun h76 => ?_)
          · refine ax_iconst (pc := 83) (v := 0) C dX3_isAhead_83 (by decide) ?_
            exact ax_zr (pc := 84) C rfl rfl dX3_isAhead_84 (by simp_all [hs_ah, ax_b, ← Int32.not_lt]) rfl
          · refine ax_iconst (pc := 79) (v := 1) C dX3_isAhead_79 (by decide) ?_
            refine ax_goto (pc := 80) (tgt := 84) C dX3_isAhead_80 (by decide) ?_
            exact ax_zr (pc := 84) C rfl rfl dX3_isAhead_84 (by simp_all [hs_ah, ax_b, ← Int32.not_lt]) rfl
      · refine ax_aload_0 (pc := 33) C dX3_isAhead_33 ?_
        refine ax_getR (pc := 34) C fX3_15 dX3_isAhead_34 hp.o rfl ?_
        refine ax_iload_2 (pc := 37) C dX3_isAhead_37 ?_
        refine ax_ian (pc := 38) C dX3_isAhead_38 hp.a2 (by omega) (by omega) ?_
        refine ax_iconst (pc := 39) (v := 3) C dX3_isAhead_39 (by decide) ?_
        refine ax_icmp_ne (pc := 40) (tgt := 47) C dX3_isAhead_40 (by decide) (fun h40 => ?_) (fun h40 => ?_)
        · refine ax_iconst (pc := 47) (v := 0) C dX3_isAhead_47 (by decide) ?_
          exact ax_zr (pc := 48) C rfl rfl dX3_isAhead_48 (by simp_all [hs_ah, ax_b, ← Int32.not_lt]) rfl
        · refine ax_iconst (pc := 43) (v := 1) C dX3_isAhead_43 (by decide) ?_
          refine ax_goto (pc := 44) (tgt := 48) C dX3_isAhead_44 (by decide) ?_
          exact ax_zr (pc := 48) C rfl rfl dX3_isAhead_48 (by simp_all [hs_ah, ax_b, ← Int32.not_lt]) rfl
    · refine ax_iconst (pc := 25) (v := 1) C dX3_isAhead_25 (by decide) ?_
      refine ax_goto (pc := 26) (tgt := 30) C dX3_isAhead_26 (by decide) ?_
      refine ax_icmp_eq (pc := 30) (tgt := 49) C dX3_isAhead_30 (by decide) (fun h30 => ?_) (fun h30 => ?_)
      · refine ax_aload_0 (pc := 49) C dX3_isAhead_49 ?_
        refine ax_getR (pc := 50) C fX3_33 dX3_isAhead_50 hp.o rfl ?_
        refine ax_iload_1 (pc := 53) C dX3_isAhead_53 ?_
        refine ax_ian (pc := 54) C dX3_isAhead_54 hp.a8 (by omega) (by omega) ?_
        refine ax_aload_0 (pc := 55) C dX3_isAhead_55 ?_
        refine ax_getR (pc := 56) C fX3_33 dX3_isAhead_56 hp.o rfl ?_
        refine ax_iload_2 (pc := 59) C dX3_isAhead_59 ?_
        refine ax_ian (pc := 60) C dX3_isAhead_60 hp.a8 (by omega) (by omega) ?_
        refine ax_icmp_eq (pc := 61) (tgt := 85) C dX3_isAhead_61 (by decide) (fun h61 => ?_) (fun h61 => ?_)
        · refine ax_aload_0 (pc := 85) C dX3_isAhead_85 ?_
          refine ax_getR (pc := 86) C fX3_18 dX3_isAhead_86 hp.o rfl ?_
          refine ax_iload_1 (pc := 89) C dX3_isAhead_89 ?_
          refine ax_ian (pc := 90) C dX3_isAhead_90 hp.a3 (by omega) (by omega) ?_
          refine ax_aload_0 (pc := 91) C dX3_isAhead_91 ?_
          refine ax_getR (pc := 92) C fX3_18 dX3_isAhead_92 hp.o rfl ?_
          refine ax_iload_2 (pc := 95) C dX3_isAhead_95 ?_
          refine ax_ian (pc := 96) C dX3_isAhead_96 hp.a3 (by omega) (by omega) ?_
          refine ax_icmp_ge (pc := 97) (tgt := 104) C dX3_isAhead_97 (by decide) (fun h97 => ?_) (fun h97 => ?_)
          · refine ax_iconst (pc := 104) (v := 0) C dX3_isAhead_104 (by decide) ?_
            exact ax_zr (pc := 105) C rfl rfl dX3_isAhead_105 (by simp_all [hs_ah, ax_b, ← Int32.not_lt]) rfl
          · refine ax_iconst (pc := 100) (v := 1) C dX3_isAhead_100 (by decide) ?_
            refine ax_goto (pc := 101) (tgt := 105) C dX3_isAhead_101 (by decide) ?_
            exact ax_zr (pc := 105) C rfl rfl dX3_isAhead_105 (by simp_all [hs_ah, ax_b, ← Int32.not_lt]) rfl
        · refine ax_aload_0 (pc := 64) C dX3_isAhead_64 ?_
          refine ax_getR (pc := 65) C fX3_33 dX3_isAhead_65 hp.o rfl ?_
          refine ax_iload_1 (pc := 68) C dX3_isAhead_68 ?_
          refine ax_ian (pc := 69) C dX3_isAhead_69 hp.a8 (by omega) (by omega) ?_
          refine ax_aload_0 (pc := 70) C dX3_isAhead_70 ?_
          refine ax_getR (pc := 71) C fX3_33 dX3_isAhead_71 hp.o rfl ?_
          refine ax_iload_2 (pc := 74) C dX3_isAhead_74 ?_
          refine ax_ian (pc := 75) C dX3_isAhead_75 hp.a8 (by omega) (by omega) ?_
          refine ax_icmp_ge (pc := 76) (tgt := 83) C dX3_isAhead_76 (by decide) (fun h76 => ?_) (fun h76 => ?_)
          · refine ax_iconst (pc := 83) (v := 0) C dX3_isAhead_83 (by decide) ?_
            exact ax_zr (pc := 84) C rfl rfl dX3_isAhead_84 (by simp_all [hs_ah, ax_b, ← Int32.not_lt]) rfl
          · refine ax_iconst (pc := 79) (v := 1) C dX3_isAhead_79 (by decide) ?_
            refine ax_goto (pc := 80) (tgt := 84) C dX3_isAhead_80 (by decide) ?_
            exact ax_zr (pc := 84) C rfl rfl dX3_isAhead_84 (by simp_all [hs_ah, ax_b, ← Int32.not_lt]) rfl
      · refine ax_aload_0 (pc := 33) C dX3_isAhead_33 ?_
        refine ax_getR (pc := 34) C fX3_15 dX3_isAhead_34 hp.o rfl ?_
        refine ax_iload_2 (pc := 37) C dX3_isAhead_37 ?_
        refine ax_ian (pc := 38) C dX3_isAhead_38 hp.a2 (by omega) (by omega) ?_
        refine ax_iconst (pc := 39) (v := 3) C dX3_isAhead_39 (by decide) ?_
        refine ax_icmp_ne (pc := 40) (tgt := 47) C dX3_isAhead_40 (by decide) (fun h40 => ?_) (fun h40 => ?_)
        · refine ax_iconst (pc := 47) (v := 0) C dX3_isAhead_47 (by decide) ?_
          exact ax_zr (pc := 48) C rfl rfl dX3_isAhead_48 (by simp_all [hs_ah, ax_b, ← Int32.not_lt]) rfl
        · refine ax_iconst (pc := 43) (v := 1) C dX3_isAhead_43 (by decide) ?_
          refine ax_goto (pc := 44) (tgt := 48) C dX3_isAhead_44 (by decide) ?_
          exact ax_zr (pc := 48) C rfl rfl dX3_isAhead_48 (by simp_all [hs_ah, ax_b, ← Int32.not_lt]) rfl
  · refine ax_iconst (pc := 10) (v := 1) C dX3_isAhead_10 (by decide) ?_
    refine ax_goto (pc := 11) (tgt := 15) C dX3_isAhead_11 (by decide) ?_
    refine ax_aload_0 (pc := 15) C dX3_isAhead_15 ?_
    refine ax_getR (pc := 16) C fX3_15 dX3_isAhead_16 hp.o rfl ?_
    refine ax_iload_2 (pc := 19) C dX3_isAhead_19 ?_
    refine ax_ian (pc := 20) C dX3_isAhead_20 hp.a2 (by omega) (by omega) ?_
    refine ax_iconst (pc := 21) (v := 3) C dX3_isAhead_21 (by decide) ?_
    refine ax_icmp_ne (pc := 22) (tgt := 29) C dX3_isAhead_22 (by decide) (fun h22 => ?_) (fun h22 => ?_)
    · refine ax_iconst (pc := 29) (v := 0) C dX3_isAhead_29 (by decide) ?_
      refine ax_icmp_eq (pc := 30) (tgt := 49) C dX3_isAhead_30 (by decide) (fun h30 => ?_) (fun h30 => ?_)
      · refine ax_aload_0 (pc := 49) C dX3_isAhead_49 ?_
        refine ax_getR (pc := 50) C fX3_33 dX3_isAhead_50 hp.o rfl ?_
        refine ax_iload_1 (pc := 53) C dX3_isAhead_53 ?_
        refine ax_ian (pc := 54) C dX3_isAhead_54 hp.a8 (by omega) (by omega) ?_
        refine ax_aload_0 (pc := 55) C dX3_isAhead_55 ?_
        refine ax_getR (pc := 56) C fX3_33 dX3_isAhead_56 hp.o rfl ?_
        refine ax_iload_2 (pc := 59) C dX3_isAhead_59 ?_
        refine ax_ian (pc := 60) C dX3_isAhead_60 hp.a8 (by omega) (by omega) ?_
        refine ax_icmp_eq (pc := 61) (tgt := 85) C dX3_isAhead_61 (by decide) (fun h61 => ?_) (fun h61 => ?_)
        · refine ax_aload_0 (pc := 85) C dX3_isAhead_85 ?_
          refine ax_getR (pc := 86) C fX3_18 dX3_isAhead_86 hp.o rfl ?_
          refine ax_iload_1 (pc := 89) C dX3_isAhead_89 ?_
          refine ax_ian (pc := 90) C dX3_isAhead_90 hp.a3 (by omega) (by omega) ?_
          refine ax_aload_0 (pc := 91) C dX3_isAhead_91 ?_
          refine ax_getR (pc := 92) C fX3_18 dX3_isAhead_92 hp.o rfl ?_
          refine ax_iload_2 (pc := 95) C dX3_isAhead_95 ?_
          refine ax_ian (pc := 96) C dX3_isAhead_96 hp.a3 (by omega) (by omega) ?_
          refine ax_icmp_ge (pc := 97) (tgt := 104) C dX3_isAhead_97 (by decide) (fun h97 => ?_) (fun h97 => ?_)
          · refine ax_iconst (pc := 104) (v := 0) C dX3_isAhead_104 (by decide) ?_
            exact ax_zr (pc := 105) C rfl rfl dX3_isAhead_105 (by simp_all [hs_ah, ax_b, ← Int32.not_lt]) rfl
          · refine ax_iconst (pc := 100) (v := 1) C dX3_isAhead_100 (by decide) ?_
            refine ax_goto (pc := 101) (tgt := 105) C dX3_isAhead_101 (by decide) ?_
            exact ax_zr (pc := 105) C rfl rfl dX3_isAhead_105 (by simp_all [hs_ah, ax_b, ← Int32.not_lt]) rfl
        · refine ax_aload_0 (pc := 64) C dX3_isAhead_64 ?_
          refine ax_getR (pc := 65) C fX3_33 dX3_isAhead_65 hp.o rfl ?_
          refine ax_iload_1 (pc := 68) C dX3_isAhead_68 ?_
          refine ax_ian (pc := 69) C dX3_isAhead_69 hp.a8 (by omega) (by omega) ?_
          refine ax_aload_0 (pc := 70) C dX3_isAhead_70 ?_
          refine ax_getR (pc := 71) C fX3_33 dX3_isAhead_71 hp.o rfl ?_
          refine ax_iload_2 (pc := 74) C dX3_isAhead_74 ?_
          refine ax_ian (pc := 75) C dX3_isAhead_75 hp.a8 (by omega) (by omega) ?_
          refine ax_icmp_ge (pc := 76) (tgt := 83) C dX3_isAhead_76 (by decide) (fun h76 => ?_) (fun h76 => ?_)
          · refine ax_iconst (pc := 83) (v := 0) C dX3_isAhead_83 (by decide) ?_
            exact ax_zr (pc := 84) C rfl rfl dX3_isAhead_84 (by simp_all [hs_ah, ax_b, ← Int32.not_lt]) rfl
          · refine ax_iconst (pc := 79) (v := 1) C dX3_isAhead_79 (by decide) ?_
            refine ax_goto (pc := 80) (tgt := 84) C dX3_isAhead_80 (by decide) ?_
            exact ax_zr (pc := 84) C rfl rfl dX3_isAhead_84 (by simp_all [hs_ah, ax_b, ← Int32.not_lt]) rfl
      · refine ax_aload_0 (pc := 33) C dX3_isAhead_33 ?_
        refine ax_getR (pc := 34) C fX3_15 dX3_isAhead_34 hp.o rfl ?_
        refine ax_iload_2 (pc := 37) C dX3_isAhead_37 ?_
        refine ax_ian (pc := 38) C dX3_isAhead_38 hp.a2 (by omega) (by omega) ?_
        refine ax_iconst (pc := 39) (v := 3) C dX3_isAhead_39 (by decide) ?_
        refine ax_icmp_ne (pc := 40) (tgt := 47) C dX3_isAhead_40 (by decide) (fun h40 => ?_) (fun h40 => ?_)
        · refine ax_iconst (pc := 47) (v := 0) C dX3_isAhead_47 (by decide) ?_
          exact ax_zr (pc := 48) C rfl rfl dX3_isAhead_48 (by simp_all [hs_ah, ax_b, ← Int32.not_lt]) rfl
        · refine ax_iconst (pc := 43) (v := 1) C dX3_isAhead_43 (by decide) ?_
          refine ax_goto (pc := 44) (tgt := 48) C dX3_isAhead_44 (by decide) ?_
          exact ax_zr (pc := 48) C rfl rfl dX3_isAhead_48 (by simp_all [hs_ah, ax_b, ← Int32.not_lt]) rfl
    · refine ax_iconst (pc := 25) (v := 1) C dX3_isAhead_25 (by decide) ?_
      refine ax_goto (pc := 26) (tgt := 30) C dX3_isAhead_26 (by decide) ?_
      refine ax_icmp_eq (pc := 30) (tgt := 49) C dX3_isAhead_30 (by decide) (fun h30 => ?_) (fun h30 => ?_)
      · refine ax_aload_0 (pc := 49) C dX3_isAhead_49 ?_
        refine ax_getR (pc := 50) C fX3_33 dX3_isAhead_50 hp.o rfl ?_
        refine ax_iload_1 (pc := 53) C dX3_isAhead_53 ?_
        refine ax_ian (pc := 54) C dX3_isAhead_54 hp.a8 (by omega) (by omega) ?_
        refine ax_aload_0 (pc := 55) C dX3_isAhead_55 ?_
        refine ax_getR (pc := 56) C fX3_33 dX3_isAhead_56 hp.o rfl ?_
        refine ax_iload_2 (pc := 59) C dX3_isAhead_59 ?_
        refine ax_ian (pc := 60) C dX3_isAhead_60 hp.a8 (by omega) (by omega) ?_
        refine ax_icmp_eq (pc := 61) (tgt := 85) C dX3_isAhead_61 (by decide) (fun h61 => ?_) (fun h61 => ?_)
        · refine ax_aload_0 (pc := 85) C dX3_isAhead_85 ?_
          refine ax_getR (pc := 86) C fX3_18 dX3_isAhead_86 hp.o rfl ?_
          refine ax_iload_1 (pc := 89) C dX3_isAhead_89 ?_
          refine ax_ian (pc := 90) C dX3_isAhead_90 hp.a3 (by omega) (by omega) ?_
          refine ax_aload_0 (pc := 91) C dX3_isAhead_91 ?_
          refine ax_getR (pc := 92) C fX3_18 dX3_isAhead_92 hp.o rfl ?_
          refine ax_iload_2 (pc := 95) C dX3_isAhead_95 ?_
          refine ax_ian (pc := 96) C dX3_isAhead_96 hp.a3 (by omega) (by omega) ?_
          refine ax_icmp_ge (pc := 97) (tgt := 104) C dX3_isAhead_97 (by decide) (fun h97 => ?_) (fun h97 => ?_)
          · refine ax_iconst (pc := 104) (v := 0) C dX3_isAhead_104 (by decide) ?_
            exact ax_zr (pc := 105) C rfl rfl dX3_isAhead_105 (by simp_all [hs_ah, ax_b, ← Int32.not_lt]) rfl
          · refine ax_iconst (pc := 100) (v := 1) C dX3_isAhead_100 (by decide) ?_
            refine ax_goto (pc := 101) (tgt := 105) C dX3_isAhead_101 (by decide) ?_
            exact ax_zr (pc := 105) C rfl rfl dX3_isAhead_105 (by simp_all [hs_ah, ax_b, ← Int32.not_lt]) rfl
        · refine ax_aload_0 (pc := 64) C dX3_isAhead_64 ?_
          refine ax_getR (pc := 65) C fX3_33 dX3_isAhead_65 hp.o rfl ?_
          refine ax_iload_1 (pc := 68) C dX3_isAhead_68 ?_
          refine ax_ian (pc := 69) C dX3_isAhead_69 hp.a8 (by omega) (by omega) ?_
          refine ax_aload_0 (pc := 70) C dX3_isAhead_70 ?_
          refine ax_getR (pc := 71) C fX3_33 dX3_isAhead_71 hp.o rfl ?_
          refine ax_iload_2 (pc := 74) C dX3_isAhead_74 ?_
          refine ax_ian (pc := 75) C dX3_isAhead_75 hp.a8 (by omega) (by omega) ?_
          refine ax_icmp_ge (pc := 76) (tgt := 83) C dX3_isAhead_76 (by decide) (fun h76 => ?_) (fun h76 => ?_)
          · refine ax_iconst (pc := 83) (v := 0) C dX3_isAhead_83 (by decide) ?_
            exact ax_zr (pc := 84) C rfl rfl dX3_isAhead_84 (by simp_all [hs_ah, ax_b, ← Int32.not_lt]) rfl
          · refine ax_iconst (pc := 79) (v := 1) C dX3_isAhead_79 (by decide) ?_
            refine ax_goto (pc := 80) (tgt := 84) C dX3_isAhead_80 (by decide) ?_
            exact ax_zr (pc := 84) C rfl rfl dX3_isAhead_84 (by simp_all [hs_ah, ax_b, ← Int32.not_lt]) rfl
      · refine ax_aload_0 (pc := 33) C dX3_isAhead_33 ?_
        refine ax_getR (pc := 34) C fX3_15 dX3_isAhead_34 hp.o rfl ?_
        refine ax_iload_2 (pc := 37) C dX3_isAhead_37 ?_
        refine ax_ian (pc := 38) C dX3_isAhead_38 hp.a2 (by omega) (by omega) ?_
        refine ax_iconst (pc := 39) (v := 3) C dX3_isAhead_39 (by decide) ?_
        refine ax_icmp_ne (pc := 40) (tgt := 47) C dX3_isAhead_40 (by decide) (fun h40 => ?_) (fun h40 => ?_)
        · refine ax_iconst (pc := 47) (v := 0) C dX3_isAhead_47 (by decide) ?_
          exact ax_zr (pc := 48) C rfl rfl dX3_isAhead_48 (by simp_all [hs_ah, ax_b, ← Int32.not_lt]) rfl
        · refine ax_iconst (pc := 43) (v := 1) C dX3_isAhead_43 (by decide) ?_
          refine ax_goto (pc := 44) (tgt := 48) C dX3_isAhead_44 (by decide) ?_
          exact ax_zr (pc := 48) C rfl rfl dX3_isAhead_48 (by simp_all [hs_ah, ax_b, ← Int32.not_lt]) rfl

set_option maxRecDepth 20000 in
set_option maxHeartbeats 4000000 in
theorem w_X3_foremostOf {Y : ax_Y} {ad : Nat → Nat} (F : ax_F Y) {l : Launch} {σ : ax_Z} {p n : Nat} (hp : ax_isP p) (hn : σ p 10 = nI n) (h7 : n ≤ 7) (rd : Nat → Bool) : ax_m Y ad l iX3_foremostOf 1 σ [.ref (ad p), .int (nI (ms_k rd n))] (some (.int (fN (hs_f rd (hp_ah σ p) n)))) σ := by
  refine ax_m.of F kX3_foremostOf.1 [some (.ref (ad p)), some (.int (nI (ms_k rd n))), none, none, none] rfl (Nat.le_of_ble_eq_true rfl) (fun x C => ?_)
  have loop : ∀ (q : Nat) (c : Nat) (o : Option Nat), hs_f rd (hp_ah σ p) c = o → c ≤ n → n < c + q → ax_S x Y ad 0 0 (ax_Q x Y ad (some (.int (fN (hs_f rd (hp_ah σ p) n)))) 96 (ax_g Y ad σ) 0 0) σ 7 [some (.ref (ad p)), some (.int (nI (ms_k rd n))), some (.int (fN o)), some (.int (fA o)), some (.int (nI c))] [] := by
    intro q
    induction q with
    | zero => intro c o ho h1 h2; exfalso; omega
    | succ q ih =>
      intro c o ho h1 h2
      cases o with
      | none =>
        refine ax_iload_4 (pc := 7) C dX3_foremostOf_7 ?_
        refine ax_aload_0 (pc := 9) C dX3_foremostOf_9 ?_
        refine ax_getI (pc := 10) C fX3_47 dX3_foremostOf_10 hp.o rfl ?_
        refine ax_icmp_ge (pc := 13) (tgt := 50) C dX3_foremostOf_13 (by decide) (fun h13 => ?_) (fun h13 => ?_)
        · have hcn : ¬ c < n := fun q => nI_ge q (by omega) (by rw [← hn]; exact h13)
          refine ax_iload_2 (pc := 50) C dX3_foremostOf_50 ?_
          exact ax_ir (pc := 51) C rfl dX3_foremostOf_51 (by rw [show n = c by omega, ho]) rfl
        · have hcn : c < n := Nat.lt_of_not_le (fun q => h13 (by rw [hn]; exact nI_le q (by omega)))
          refine ax_iload_1 (pc := 16) C dX3_foremostOf_16 ?_
          refine ax_iload_4 (pc := 17) C dX3_foremostOf_17 ?_
          refine ax_ishr (pc := 19) C dX3_foremostOf_19 ?_
          refine ax_iconst (pc := 20) (v := 1) C dX3_foremostOf_20 (by decide) ?_
          refine ax_iand (pc := 21) C dX3_foremostOf_21 ?_
          refine ax_if_eq (pc := 22) (tgt := 44) C dX3_foremostOf_22 (by decide) (fun h22 => ?_) (fun h22 => ?_)
          · rw [ms_test hcn (by omega)] at h22
            refine ax_iinc_4 (pc := 44) C dX3_foremostOf_44 (1) (by decide) rfl ?_
            refine ax_goto (pc := 47) (tgt := 7) C dX3_foremostOf_47 (by decide) ?_
            refine ax_Leq ?_ (ih (c + 1) none (by simp_all [hs_f]) (by omega) (by omega))
            rw [nI_1]
          · rw [ms_test hcn (by omega)] at h22
            refine ax_iload_3 (pc := 25) C dX3_foremostOf_25 ?_
            refine ax_if_eq (pc := 26) (tgt := 39) C dX3_foremostOf_26 (by decide) (fun _ => ?_) (fun z => False.elim (z rfl))
            refine ax_iload_4 (pc := 39) C dX3_foremostOf_39 ?_
            refine ax_istore_2 (pc := 41) C dX3_foremostOf_41 rfl ?_
            refine ax_iconst (pc := 42) (v := 1) C dX3_foremostOf_42 (by decide) ?_
            refine ax_istore_3 (pc := 43) C dX3_foremostOf_43 rfl ?_
            refine ax_iinc_4 (pc := 44) C dX3_foremostOf_44 (1) (by decide) rfl ?_
            refine ax_goto (pc := 47) (tgt := 7) C dX3_foremostOf_47 (by decide) ?_
            refine ax_Leq ?_ (ih (c + 1) (some c) (by simp_all [hs_f]) (by omega) (by omega))
            rw [nI_1]
            rfl
      | some f =>
        have hfl := (hs_f_lt ho).1
        refine ax_iload_4 (pc := 7) C dX3_foremostOf_7 ?_
        refine ax_aload_0 (pc := 9) C dX3_foremostOf_9 ?_
        refine ax_getI (pc := 10) C fX3_47 dX3_foremostOf_10 hp.o rfl ?_
        refine ax_icmp_ge (pc := 13) (tgt := 50) C dX3_foremostOf_13 (by decide) (fun h13 => ?_) (fun h13 => ?_)
        · have hcn : ¬ c < n := fun q => nI_ge q (by omega) (by rw [← hn]; exact h13)
          refine ax_iload_2 (pc := 50) C dX3_foremostOf_50 ?_
          exact ax_ir (pc := 51) C rfl dX3_foremostOf_51 (by rw [show n = c by omega, ho]) rfl
        · have hcn : c < n := Nat.lt_of_not_le (fun q => h13 (by rw [hn]; exact nI_le q (by omega)))
          refine ax_iload_1 (pc := 16) C dX3_foremostOf_16 ?_
          refine ax_iload_4 (pc := 17) C dX3_foremostOf_17 ?_
          refine ax_ishr (pc := 19) C dX3_foremostOf_19 ?_
          refine ax_iconst (pc := 20) (v := 1) C dX3_foremostOf_20 (by decide) ?_
          refine ax_iand (pc := 21) C dX3_foremostOf_21 ?_
          refine ax_if_eq (pc := 22) (tgt := 44) C dX3_foremostOf_22 (by decide) (fun h22 => ?_) (fun h22 => ?_)
          · rw [ms_test hcn (by omega)] at h22
            refine ax_iinc_4 (pc := 44) C dX3_foremostOf_44 (1) (by decide) rfl ?_
            refine ax_goto (pc := 47) (tgt := 7) C dX3_foremostOf_47 (by decide) ?_
            refine ax_Leq ?_ (ih (c + 1) (some f) (by simp_all [hs_f]) (by omega) (by omega))
            rw [nI_1]
          · rw [ms_test hcn (by omega)] at h22
            refine ax_iload_3 (pc := 25) C dX3_foremostOf_25 ?_
            refine ax_if_eq (pc := 26) (tgt := 39) C dX3_foremostOf_26 (by decide) (fun z => False.elim (absurd z (by show ¬ (1 : Int32) = 0; decide))) (fun _ => ?_)
            refine ax_aload_0 (pc := 29) C dX3_foremostOf_29 ?_
            refine ax_iload_4 (pc := 30) C dX3_foremostOf_30 ?_
            refine ax_iload_2 (pc := 32) C dX3_foremostOf_32 ?_
            refine ax_callVi (pc := 33) C (w_X3_isAhead F (d := f) hp (by omega) (by omega)) kX3_isAhead mX3_113 dX3_foremostOf_33 (by decide) rfl hp.o rfl rfl rfl (Nat.le_of_ble_eq_true rfl) rfl ⟨Nat.le_refl _, Nat.le_refl _⟩ ?_
            refine ax_if_eq (pc := 36) (tgt := 44) C dX3_foremostOf_36 (by decide) (fun h36 => ?_) (fun h36 => ?_)
            · have h36 := ax_beq h36
              refine ax_iinc_4 (pc := 44) C dX3_foremostOf_44 (1) (by decide) rfl ?_
              refine ax_goto (pc := 47) (tgt := 7) C dX3_foremostOf_47 (by decide) ?_
              refine ax_Leq ?_ (ih (c + 1) (some f) (by simp_all [hs_f]) (by omega) (by omega))
              rw [nI_1]
            · have h36 := ax_bne h36
              refine ax_iload_4 (pc := 39) C dX3_foremostOf_39 ?_
              refine ax_istore_2 (pc := 41) C dX3_foremostOf_41 rfl ?_
              refine ax_iconst (pc := 42) (v := 1) C dX3_foremostOf_42 (by decide) ?_
              refine ax_istore_3 (pc := 43) C dX3_foremostOf_43 rfl ?_
              refine ax_iinc_4 (pc := 44) C dX3_foremostOf_44 (1) (by decide) rfl ?_
              refine ax_goto (pc := 47) (tgt := 7) C dX3_foremostOf_47 (by decide) ?_
              refine ax_Leq ?_ (ih (c + 1) (some c) (by simp_all [hs_f]) (by omega) (by omega))
              rw [nI_1]
              rfl
  refine ax_iconst (pc := 0) (v := 0) C dX3_foremostOf_0 (by decide) ?_
  refine ax_istore_2 (pc := 1) C dX3_foremostOf_1 rfl ?_
  refine ax_iconst (pc := 2) (v := 0) C dX3_foremostOf_2 (by decide) ?_
  refine ax_istore_3 (pc := 3) C dX3_foremostOf_3 rfl ?_
  refine ax_iconst (pc := 4) (v := 0) C dX3_foremostOf_4 (by decide) ?_
  refine ax_istore_4 (pc := 5) C dX3_foremostOf_5 rfl ?_
  exact loop (n + 1) 0 none rfl (by omega) (by omega)

set_option maxRecDepth 20000 in
set_option maxHeartbeats 4000000 in
theorem w_X3_markGone {Y : ax_Y} {ad : Nat → Nat} (F : ax_F Y) {l : Launch} {σ : ax_Z} {p n : Nat} (hp : ax_isP p) (hn : σ p 10 = nI n) (h7 : n ≤ 7) (tr : Nat → Bool) : ax_m Y ad l iX3_markGone 0 σ [.ref (ad p), .int (nI (ms_k tr n))] none (hs_gone σ (p + 6) tr (σ p 11) n) := by
  refine ax_m.of F kX3_markGone.1 [some (.ref (ad p)), some (.int (nI (ms_k tr n))), none] rfl (Nat.le_of_ble_eq_true rfl) (fun x C => ?_)
  have loop : ∀ (q : Nat) (c : Nat) (τ : ax_Z), τ = hs_gone σ (p + 6) tr (σ p 11) c → c ≤ n → n < c + q → ax_S x Y ad 0 0 (ax_Q x Y ad none 96 (ax_g Y ad (hs_gone σ (p + 6) tr (σ p 11) n)) 0 0) τ 2 [some (.ref (ad p)), some (.int (nI (ms_k tr n))), some (.int (nI c))] [] := by
    intro q
    induction q with
    | zero => intro c τ e h1 h2; exfalso; omega
    | succ q ih =>
      intro c τ e h1 h2
      have e10 : τ p 10 = nI n := by rw [e, ← hn]; simp [hs_gone]
      have e11 : τ p 11 = σ p 11 := by rw [e]; simp [hs_gone]
      refine ax_iload_2 (pc := 2) C dX3_markGone_2 ?_
      refine ax_aload_0 (pc := 3) C dX3_markGone_3 ?_
      refine ax_getI (pc := 4) C fX3_47 dX3_markGone_4 hp.o rfl ?_
      refine ax_icmp_ge (pc := 7) (tgt := 34) C dX3_markGone_7 (by decide) (fun h7 => ?_) (fun h7 => ?_)
      · have hcn : ¬ c < n := fun q => nI_ge q (by omega) (by rw [← e10]; exact h7)
        exact ax_vr (pc := 34) C rfl dX3_markGone_34 (by rw [e, show c = n by omega])
      · have hcn : c < n := Nat.lt_of_not_le (fun q => h7 (by rw [e10]; exact nI_le q (by omega)))
        refine ax_iload_1 (pc := 10) C dX3_markGone_10 ?_
        refine ax_iload_2 (pc := 11) C dX3_markGone_11 ?_
        refine ax_ishr (pc := 12) C dX3_markGone_12 ?_
        refine ax_iconst (pc := 13) (v := 1) C dX3_markGone_13 (by decide) ?_
        refine ax_iand (pc := 14) C dX3_markGone_14 ?_
        refine ax_if_eq (pc := 15) (tgt := 28) C dX3_markGone_15 (by decide) (fun h15 => ?_) (fun h15 => ?_)
        · rw [ms_test hcn (by omega)] at h15
          refine ax_iinc_2 (pc := 28) C dX3_markGone_28 (1) (by decide) rfl ?_
          refine ax_goto (pc := 31) (tgt := 2) C dX3_markGone_31 (by decide) ?_
          have ht : ¬ tr c = true := by simp_all
          refine ax_Leq (by rw [nI_1]) (ih (c + 1) _ ?_ (by omega) (by omega))
          subst e
          exact (hs_gone_f ht).symm
        · rw [ms_test hcn (by omega)] at h15
          refine ax_aload_0 (pc := 18) C dX3_markGone_18 ?_
          refine ax_getR (pc := 19) C fX3_27 dX3_markGone_19 hp.o rfl ?_
          refine ax_iload_2 (pc := 22) C dX3_markGone_22 ?_
          refine ax_aload_0 (pc := 23) C dX3_markGone_23 ?_
          refine ax_getI (pc := 24) C fX3_51 dX3_markGone_24 hp.o rfl ?_
          refine ax_isn (pc := 27) C dX3_markGone_27 hp.a6 (by omega) (by omega) ?_
          refine ax_iinc_2 (pc := 28) C dX3_markGone_28 (1) (by decide) rfl ?_
          refine ax_goto (pc := 31) (tgt := 2) C dX3_markGone_31 (by decide) ?_
          have ht : tr c = true := by simp_all
          refine ax_Leq (by rw [nI_1]) (ih (c + 1) _ ?_ (by omega) (by omega))
          rw [e11]
          subst e
          exact hs_gone_t ht
  refine ax_iconst (pc := 0) (v := 0) C dX3_markGone_0 (by decide) ?_
  refine ax_istore_2 (pc := 1) C dX3_markGone_1 rfl ?_
  exact loop (n + 1) 0 σ hs_gone_0.symm (by omega) (by omega)

set_option maxRecDepth 20000 in
set_option maxHeartbeats 4000000 in
theorem w_X3_tollFor {Y : ax_Y} {ad : Nat → Nat} (F : ax_F Y) {l : Launch} {σ : ax_Z} {p k : Nat} (hp : ax_isP p) (hk : k < 100) : ax_m Y ad l iX3_tollFor 1 σ [.ref (ad p), .int (nI k)] (some (.int (hs_toll (σ (p + 1)) k))) σ := by
  refine ax_m.of F kX3_tollFor.1 [some (.ref (ad p)), some (.int (nI k))] rfl (Nat.le_of_ble_eq_true rfl) (fun x C => ?_)
  refine ax_iload_1 (pc := 0) C dX3_tollFor_0 ?_
  refine ax_iconst (pc := 1) (v := 1) C dX3_tollFor_1 (by decide) ?_
  refine ax_icmp_ge (pc := 2) (tgt := 9) C dX3_tollFor_2 (by decide) (fun h2 => ?_) (fun h2 => ?_)
  · have hk0 : 0 < k := Nat.pos_of_ne_zero (fun q => by subst q; exact absurd h2 (by decide))
    refine ax_aload_0 (pc := 9) C dX3_tollFor_9 ?_
    refine ax_getR (pc := 10) C fX3_9 dX3_tollFor_10 hp.o rfl ?_
    refine ax_iload_1 (pc := 13) C dX3_tollFor_13 ?_
    refine ax_bipush (pc := 14) (v := 6) C dX3_tollFor_14 (by decide) ?_
    refine ax_min (pc := 16) C (by decide) mi_X3 dX3_tollFor_16 (Nat.le_of_ble_eq_true rfl) rfl ⟨Nat.le_refl _, Nat.le_refl _⟩ ?_
    refine ax_iconst (pc := 19) (v := 1) C dX3_tollFor_19 (by decide) ?_
    refine ax_isub (pc := 20) C dX3_tollFor_20 ?_
    refine ax_iae (pc := 21) (c := min k 6 - 1) C dX3_tollFor_21 hp.a1 (hs_tix hk0 (by omega)) (by omega) (by omega) ?_
    exact ax_ir (pc := 22) C rfl dX3_tollFor_22 (by rw [hs_toll, if_neg (by omega)]) rfl
  · have hk0 : k = 0 := by
      rcases Nat.eq_zero_or_pos k with q | q
      · exact q
      · exact absurd (nI_le (a := 1) q (by omega)) h2
    refine ax_iconst (pc := 5) (v := 0) C dX3_tollFor_5 (by decide) ?_
    refine ax_goto (pc := 6) (tgt := 22) C dX3_tollFor_6 (by decide) ?_
    exact ax_ir (pc := 22) C rfl dX3_tollFor_22 (by rw [hk0]; rfl) rfl


set_option maxRecDepth 20000 in
set_option maxHeartbeats 4000000 in
theorem w_X3_goBy {Y : ax_Y} {ad : Nat → Nat} (F : ax_F Y) {l : Launch} {σ : ax_Z} {p n : Nat} (hp : ax_isP p) (hn : σ p 10 = nI n) (h7 : n ≤ 7) {h : Nat} (hr : σ p 11 = nI h) (hh12 : h < 12) : ax_m Y ad l iX3_goBy 2 σ [.ref (ad p)] (some (.int (nI (hp_tm σ p n)))) (hp_go σ p n h) := by
  have hh : (0 : Int32) ≤ σ p 11 ∧ σ p 11 ≤ 11 := by
    rw [hr]
    exact ⟨nI_pos' (by omega), nI_le (b := 11) (by omega) (by omega)⟩
  have hcc := ms_c_le (hp_tr σ p n) n
  have htr : nI (ms_k (hp_rd σ p n) n) ||| nI (ms_k (fun c => hs_fo (σ (p + 2)) c && hp_st σ p c) n) = nI (ms_k (hp_tr σ p n) n) := by rw [nI_or, ms_or]; rfl
  have hbc := jd_bc_ms (hp_tr σ p n) h7
  refine ax_m.of F kX3_goBy.1 [some (.ref (ad p)), none, none, none, none] rfl (Nat.le_of_ble_eq_true rfl) (fun x C => ?_)
  cases ho : hp_f σ p n with
  | none =>
    refine ax_aload_0 (pc := 0) C dX3_goBy_0 ?_
    refine ax_getI (pc := 1) C fX3_51 dX3_goBy_1 hp.o rfl ?_
    refine ax_callNi (pc := 4) C (w_X6_isHour F) kX6_isHour mX3_80 dX3_goBy_4 (by decide) rfl rfl (Nat.le_of_ble_eq_true rfl) rfl ⟨Nat.le_refl _, Nat.le_refl _⟩ ?_
    refine ax_if_ne (pc := 7) (tgt := 12) C dX3_goBy_7 (by decide) (fun _ => ?_) (fun z => False.elim (absurd hh (ax_beq z)))
    refine ax_aload_0 (pc := 12) C dX3_goBy_12 ?_
    refine ax_callVi (pc := 13) C (w_X3_standing F hp hn h7) kX3_standing mX3_84 dX3_goBy_13 (by decide) rfl hp.o rfl rfl rfl (Nat.le_of_ble_eq_true rfl) rfl ⟨Nat.le_refl _, Nat.le_refl _⟩ ?_
    refine ax_istore_1 (pc := 16) C dX3_goBy_16 rfl ?_
    refine ax_aload_0 (pc := 17) C dX3_goBy_17 ?_
    refine ax_iload_1 (pc := 18) C dX3_goBy_18 ?_
    refine ax_callVi (pc := 19) C (show ax_m Y ad _ iX3_readyOf 1 σ _ (some (.int (nI (ms_k (hp_rd σ p n) n)))) σ from w_X3_readyOf F hp hn h7 (hp_st σ p)) kX3_readyOf mX3_87 dX3_goBy_19 (by decide) rfl hp.o rfl rfl rfl (Nat.le_of_ble_eq_true rfl) rfl ⟨Nat.le_refl _, Nat.le_refl _⟩ ?_
    refine ax_istore_2 (pc := 22) C dX3_goBy_22 rfl ?_
    refine ax_iconst (pc := 23) (v := 0) C dX3_goBy_23 (by decide) ?_
    refine ax_istore_3 (pc := 24) C dX3_goBy_24 rfl ?_
    refine ax_iload_2 (pc := 25) C dX3_goBy_25 ?_
    refine ax_if_eq (pc := 26) (tgt := 75) C dX3_goBy_26 (by decide) (fun _ => ?_) (fun z => False.elim (z ((ms_zero (by omega)).mpr (hs_f_none.mp ho))))
    refine ax_aload_0 (pc := 75) C dX3_goBy_75 ?_
    refine ax_dup (pc := 76) C dX3_goBy_76 rfl ?_
    refine ax_getI (pc := 77) C fX3_51 dX3_goBy_77 hp.o rfl ?_
    refine ax_iconst (pc := 80) (v := 1) C dX3_goBy_80 (by decide) ?_
    refine ax_iadd (pc := 81) C dX3_goBy_81 ?_
    refine ax_putI (pc := 82) C fX3_51 dX3_goBy_82 hp.o rfl rfl rfl ?_
    refine ax_iload_3 (pc := 85) C dX3_goBy_85 ?_
    exact ax_ir (pc := 86) C rfl dX3_goBy_86 (by simp only [hp_tm, ho]; rfl) (by simp only [hp_go, ho]; rw [hr, nI_1])
  | some f =>
    have hfl := hs_f_lt ho
    have r1 : ax_up σ (p + 9) h (nI f) (p + 1) = σ (p + 1) := ax_row_ne (by omega)
    have e11a : ∀ v w : Int32, ax_up (ax_up σ (p + 9) h v) (p + 7) f w p 11 = nI h := by
      intro v w
      rw [← hr]
      simp [ax_up]
    have e11b : ∀ (τ : ax_Z) (v : Int32), hs_gone τ (p + 6) (hp_tr σ p n) v n p 11 = τ p 11 := by
      intro τ v
      simp [hs_gone]
    refine ax_aload_0 (pc := 0) C dX3_goBy_0 ?_
    refine ax_getI (pc := 1) C fX3_51 dX3_goBy_1 hp.o rfl ?_
    refine ax_callNi (pc := 4) C (w_X6_isHour F) kX6_isHour mX3_80 dX3_goBy_4 (by decide) rfl rfl (Nat.le_of_ble_eq_true rfl) rfl ⟨Nat.le_refl _, Nat.le_refl _⟩ ?_
    refine ax_if_ne (pc := 7) (tgt := 12) C dX3_goBy_7 (by decide) (fun _ => ?_) (fun z => False.elim (absurd hh (ax_beq z)))
    refine ax_aload_0 (pc := 12) C dX3_goBy_12 ?_
    refine ax_callVi (pc := 13) C (w_X3_standing F hp hn h7) kX3_standing mX3_84 dX3_goBy_13 (by decide) rfl hp.o rfl rfl rfl (Nat.le_of_ble_eq_true rfl) rfl ⟨Nat.le_refl _, Nat.le_refl _⟩ ?_
    refine ax_istore_1 (pc := 16) C dX3_goBy_16 rfl ?_
    refine ax_aload_0 (pc := 17) C dX3_goBy_17 ?_
    refine ax_iload_1 (pc := 18) C dX3_goBy_18 ?_
    refine ax_callVi (pc := 19) C (show ax_m Y ad _ iX3_readyOf 1 σ _ (some (.int (nI (ms_k (hp_rd σ p n) n)))) σ from w_X3_readyOf F hp hn h7 (hp_st σ p)) kX3_readyOf mX3_87 dX3_goBy_19 (by decide) rfl hp.o rfl rfl rfl (Nat.le_of_ble_eq_true rfl) rfl ⟨Nat.le_refl _, Nat.le_refl _⟩ ?_
    refine ax_istore_2 (pc := 22) C dX3_goBy_22 rfl ?_
    refine ax_iconst (pc := 23) (v := 0) C dX3_goBy_23 (by decide) ?_
    refine ax_istore_3 (pc := 24) C dX3_goBy_24 rfl ?_
    refine ax_iload_2 (pc := 25) C dX3_goBy_25 ?_
    refine ax_if_eq (pc := 26) (tgt := 75) C dX3_goBy_26 (by decide) (fun z => False.elim (by have := (ms_zero (by omega)).mp z f hfl.1; rw [show _ = true from hfl.2] at this; cases this)) (fun _ => ?_)
    refine ax_iload_2 (pc := 29) C dX3_goBy_29 ?_
    refine ax_aload_0 (pc := 30) C dX3_goBy_30 ?_
    refine ax_iload_1 (pc := 31) C dX3_goBy_31 ?_
    refine ax_callVi (pc := 32) C (w_X3_followersOf F hp hn h7 (hp_st σ p)) kX3_followersOf mX3_91 dX3_goBy_32 (by decide) rfl hp.o rfl rfl rfl (Nat.le_of_ble_eq_true rfl) rfl ⟨Nat.le_refl _, Nat.le_refl _⟩ ?_
    refine ax_ior (pc := 35) C dX3_goBy_35 ?_
    rw [htr]
    refine ax_istore_3 (pc := 36) C dX3_goBy_36 rfl ?_
    refine ax_aload_0 (pc := 37) C dX3_goBy_37 ?_
    refine ax_iload_2 (pc := 38) C dX3_goBy_38 ?_
    refine ax_callVi (pc := 39) C (w_X3_foremostOf F hp hn h7 (hp_rd σ p n)) kX3_foremostOf mX3_94 dX3_goBy_39 (by decide) rfl hp.o rfl rfl rfl (Nat.le_of_ble_eq_true rfl) rfl ⟨Nat.le_refl _, Nat.le_refl _⟩ ?_
    rw [show hs_f (hp_rd σ p n) (hp_ah σ p) n = some f from ho]
    refine ax_istore_4 (pc := 42) C dX3_goBy_42 rfl ?_
    refine ax_aload_0 (pc := 44) C dX3_goBy_44 ?_
    refine ax_getR (pc := 45) C fX3_36 dX3_goBy_45 hp.o rfl ?_
    refine ax_aload_0 (pc := 48) C dX3_goBy_48 ?_
    refine ax_getI (pc := 49) C fX3_51 dX3_goBy_49 hp.o rfl ?_
    refine ax_iload_4 (pc := 52) C dX3_goBy_52 ?_
    refine ax_ise (pc := 54) (c := h) C dX3_goBy_54 hp.a9 hr (by omega) (by omega) ?_
    refine ax_aload_0 (pc := 55) C dX3_goBy_55 ?_
    refine ax_getR (pc := 56) C fX3_30 dX3_goBy_56 hp.o rfl ?_
    refine ax_iload_4 (pc := 59) C dX3_goBy_59 ?_
    refine ax_aload_0 (pc := 61) C dX3_goBy_61 ?_
    refine ax_iload_3 (pc := 62) C dX3_goBy_62 ?_
    refine ax_callSi (pc := 63) C (w_J6_bitCount_0f7a4 F) kJ6_bitCount_0f7a4 mX3_97 dX3_goBy_63 (by decide) rfl rfl (Nat.le_of_ble_eq_true rfl) rfl ⟨Nat.le_refl _, Nat.le_refl _⟩ ?_
    rw [hbc]
    refine ax_callVi (pc := 66) C (w_X3_tollFor F hp (k := ms_c (hp_tr σ p n) n) (by omega)) kX3_tollFor mX3_102 dX3_goBy_66 (by decide) rfl hp.o rfl rfl rfl (Nat.le_of_ble_eq_true rfl) rfl ⟨Nat.le_refl _, Nat.le_refl _⟩ ?_
    refine ax_ise (pc := 69) (c := f) C dX3_goBy_69 hp.a7 rfl (by omega) (by omega) ?_
    refine ax_aload_0 (pc := 70) C dX3_goBy_70 ?_
    refine ax_iload_3 (pc := 71) C dX3_goBy_71 ?_
    refine ax_callVv (pc := 72) C (w_X3_markGone F hp (n := n) (by rw [← hn]; simp [ax_up]) h7 (hp_tr σ p n)) kX3_markGone mX3_105 dX3_goBy_72 (by decide) rfl hp.o rfl rfl rfl (Nat.le_of_ble_eq_true rfl) rfl ⟨Nat.le_refl _, Nat.le_refl _⟩ ?_
    refine ax_aload_0 (pc := 75) C dX3_goBy_75 ?_
    refine ax_dup (pc := 76) C dX3_goBy_76 rfl ?_
    refine ax_getI (pc := 77) C fX3_51 dX3_goBy_77 hp.o rfl ?_
    refine ax_iconst (pc := 80) (v := 1) C dX3_goBy_80 (by decide) ?_
    refine ax_iadd (pc := 81) C dX3_goBy_81 ?_
    refine ax_putI (pc := 82) C fX3_51 dX3_goBy_82 hp.o rfl rfl rfl ?_
    refine ax_iload_3 (pc := 85) C dX3_goBy_85 ?_
    exact ax_ir (pc := 86) C rfl dX3_goBy_86 (by simp [hp_tm, ho, htr]) (by simp only [hp_go, ho, fN, r1, e11a, e11b, nI_1])
