theorem mi_N {a b : Nat} (ha : a < 2 ^ 31) (hb : b < 2 ^ 31) : (if nI b < nI a then nI b else nI a) = nI (min a b) := by
  by_cases h : b < a
  · rw [if_pos ((nI_ltI hb ha).mpr h), Nat.min_eq_right (by omega)]
  · rw [if_neg (fun z => h ((nI_ltI hb ha).mp z)), Nat.min_eq_left (by omega)]
theorem bo_S_t {τ : ax_Z} {h : Nat} (e : τ 38 h = -1) : bo_S τ (h + 1) = bo_S τ h := if_pos e
theorem bo_S_f {τ : ax_Z} {h f : Nat} (e : τ 38 h = nI f) (hf : f < 100) : bo_S τ (h + 1) = ax_up (bo_S τ h) 37 f (bo_S τ h 37 f + 1) := by
  have hne : ¬ nI f = -1 := by
    intro z
    have h1 : (nI f).toInt = (-1 : Int32).toInt := by rw [z]
    rw [nI_toInt (by omega)] at h1
    have h2 : (-1 : Int32).toInt = -1 := by decide
    omega
  show (if τ 38 h = -1 then _ else _) = _
  rw [e, if_neg hne, nI_clamp (by omega)]
theorem fd_bd {T H P m : Nat} (hT : T ≤ 99) (hH : H ≤ 20) (hm : m < 3) : H * 100 ^ (m + 1) + (100 - P) * fd_f T H P m < 2 ^ 31 ∧ T * 100 ^ (m + 1) < 2 ^ 27 := by
  have h1 := fd_le T H P m
  have h2 : 100 ^ (m + 1) ≤ 100 ^ 3 := Nat.pow_le_pow_right (by decide) hm
  have h3 : 100 * 100 ^ m = 100 ^ (m + 1) := by rw [Nat.pow_succ, Nat.mul_comm]
  have h4 : H * 100 ^ (m + 1) ≤ 20 * 100 ^ 3 := Nat.mul_le_mul hH h2
  have h5 : T * 100 ^ (m + 1) ≤ 99 * 100 ^ 3 := Nat.mul_le_mul hT h2
  have h6 : (100 - P) * fd_f T H P m ≤ 100 * (T * 100 ^ m) := Nat.mul_le_mul (by omega) h1
  have h7 : 100 * (T * 100 ^ m) = T * 100 ^ (m + 1) := by rw [Nat.mul_left_comm, h3]
  have h8 : (20 * 100 ^ 3 : Nat) = 20000000 := by decide
  have h9 : (99 * 100 ^ 3 : Nat) = 99000000 := by decide
  have h10 : (2 ^ 31 : Nat) = 2147483648 := by decide
  have h11 : (2 ^ 27 : Nat) = 134217728 := by decide
  omega
theorem fd_27 {T H P m : Nat} (hT : T ≤ 99) (hm : m ≤ 3) : fd_f T H P m < 2 ^ 27 := by
  have h1 := fd_le T H P m
  have h2 : 100 ^ m ≤ 100 ^ 3 := Nat.pow_le_pow_right (by decide) hm
  have h5 : T * 100 ^ m ≤ 99 * 100 ^ 3 := Nat.mul_le_mul hT h2
  have h9 : (99 * 100 ^ 3 : Nat) = 99000000 := by decide
  have h11 : (2 ^ 27 : Nat) = 134217728 := by decide
  omega

set_option maxRecDepth 20000 in
set_option maxHeartbeats 4000000 in
theorem w_X2_timesFirst {Y : ax_Y} {ad : Nat → Nat} (F : ax_F Y) {l : Launch} {σ : ax_Z} {n : Nat} (hn : σ 14 10 = nI n) (h7 : n ≤ 7) (ht : σ 14 9 = 0 ∨ σ 14 9 = 1) {c d0 : Nat} (hc : c < 7) (hd0 : d0 < 100) : ax_m Y ad l iX2_timesFirst 4 σ [.ref (ad 28), .ref (ad 14), .int (nI c), .int (nI d0)] (some (.int (bo_f (hp_K (hp_bc σ 29 14) 29 n) d0 c))) (bk_S (hp_bc σ 29 14) n d0) := by
  have e10 : hp_bc σ 29 14 29 10 = nI n := by rw [← hn]; unfold hp_bc; rw [up_o (by decide), up_s]
  refine ax_m.of F kX2_timesFirst.1 [some (.ref (ad 28)), some (.ref (ad 14)), some (.int (nI c)), some (.int (nI d0)), none, none] rfl (Nat.le_of_ble_eq_true rfl) (fun x C => ?_)
  have outer : ∀ (q : Nat) (d : Nat) (z : Option Value), d ≤ d0 → d0 < d + q → ax_S x Y ad 0 0 (ax_Q x Y ad (some (.int (bo_f (hp_K (hp_bc σ 29 14) 29 n) d0 c))) 96 (ax_g Y ad (bk_S (hp_bc σ 29 14) n d0)) 0 0) (bk_S (hp_bc σ 29 14) n d) 11 [some (.ref (ad 28)), some (.ref (ad 14)), some (.int (nI c)), some (.int (nI d0)), some (.int (nI d)), z] [] := by
    intro q
    induction q with
    | zero => intro d z h1 h2; exfalso; omega
    | succ q ih =>
      intro d z h1 h2
      refine ax_iload_4 (pc := 11) C dX2_timesFirst_11 ?_
      refine ax_iload_3 (pc := 13) C dX2_timesFirst_13 ?_
      refine ax_icmp_ge (pc := 14) (tgt := 82) C dX2_timesFirst_14 (by decide) (fun h14 => ?_) (fun h14 => ?_)
      · have hd : ¬ d < d0 := fun z => nI_ge z (by omega) h14
        refine ax_aload_0 (pc := 82) C dX2_timesFirst_82 ?_
        refine ax_getR (pc := 83) C fX2_12 dX2_timesFirst_83 rfl rfl ?_
        refine ax_getR (pc := 86) C fX2_55 dX2_timesFirst_86 rfl rfl ?_
        refine ax_iload_2 (pc := 89) C dX2_timesFirst_89 ?_
        refine ax_ian (pc := 90) C dX2_timesFirst_90 rfl hc (by decide) ?_
        exact ax_ir (pc := 91) C rfl dX2_timesFirst_91 (by rw [show d = d0 by omega]; exact congrFun (congrArg dC.tm (bk_S_K (τ := hp_bc σ 29 14) (d := d0) h7)).symm c) (by rw [show d = d0 by omega])
      · have hd : d < d0 := Nat.lt_of_not_le (fun z => h14 (nI_le z (by omega)))
        refine ax_aload_0 (pc := 17) C dX2_timesFirst_17 ?_
        refine ax_getR (pc := 18) C fX2_12 dX2_timesFirst_18 rfl rfl ?_
        refine ax_callVv (pc := 21) C (w_X3_runDay F ax_day (n := n) (by rw [bk_S_o (by decide)]; exact e10) h7) kX3_runDay mX2_22 dX2_timesFirst_21 (by decide) rfl rfl rfl rfl rfl (Nat.le_of_ble_eq_true rfl) rfl ⟨Nat.le_refl _, Nat.le_refl _⟩ ?_
        have ih0 := ih
        have loop : ∀ (q : Nat) (h : Nat), h ≤ 12 → 12 < h + q → ax_S x Y ad 0 0 (ax_Q x Y ad (some (.int (bo_f (hp_K (hp_bc σ 29 14) 29 n) d0 c))) 96 (ax_g Y ad (bk_S (hp_bc σ 29 14) n d0)) 0 0) (bo_S (hp_dy (bk_S (hp_bc σ 29 14) n d) 29 n) h) 27 [some (.ref (ad 28)), some (.ref (ad 14)), some (.int (nI c)), some (.int (nI d0)), some (.int (nI d)), some (.int (nI h))] [] := by
          intro q
          induction q with
          | zero => intro h h1 h2; exfalso; omega
          | succ q ih =>
            intro h h1 h2
            refine ax_iload_5 (pc := 27) C dX2_timesFirst_27 ?_
            refine ax_bipush (pc := 29) (v := 12) C dX2_timesFirst_29 (by decide) ?_
            refine ax_icmp_ge (pc := 31) (tgt := 76) C dX2_timesFirst_31 (by decide) (fun h31 => ?_) (fun h31 => ?_)
            · have hh : ¬ h < 12 := fun z => nI_ge (a := h) (b := 12) z (by decide) h31
              have h12 : h = 12 := by omega
              subst h12
              refine ax_iinc_4 (pc := 76) C dX2_timesFirst_76 (1) (by decide) rfl ?_
              refine ax_goto (pc := 79) (tgt := 11) C dX2_timesFirst_79 (by decide) ?_
              refine ax_Leq ?_ (ih0 (d + 1) (some (.int (nI 12))) (by omega) (by omega))
              rw [nI_1]
            · have hh : h < 12 := Nat.lt_of_not_le (fun z => h31 (nI_le (a := 12) z (by omega)))
              have hy := dd_y_in (K := hp_K (bk_S (hp_bc σ 29 14) n d) 29 n) 12 h
              rw [show (dd (hp_K (bk_S (hp_bc σ 29 14) n d) 29 n) 12).2.2 h = (hp_dy (bk_S (hp_bc σ 29 14) n d) 29 n) 38 h from (hp_dy_y (p := 29) h7 hh).symm] at hy
              refine ax_aload_0 (pc := 34) C dX2_timesFirst_34 ?_
              refine ax_getR (pc := 35) C fX2_12 dX2_timesFirst_35 rfl rfl ?_
              refine ax_getR (pc := 38) C fX2_52 dX2_timesFirst_38 rfl rfl ?_
              refine ax_iload_5 (pc := 41) C dX2_timesFirst_41 ?_
              refine ax_ian (pc := 43) C dX2_timesFirst_43 rfl (by omega) (by omega) ?_
              refine ax_val C (show _ = (hp_dy (bk_S (hp_bc σ 29 14) n d) 29 n) 38 h by rw [bo_S_ne (by decide)]) ?_
              refine ax_iconst (pc := 44) (v := (-1)) C dX2_timesFirst_44 (by decide) ?_
              refine ax_icmp_eq (pc := 45) (tgt := 70) C dX2_timesFirst_45 (by decide) (fun h45 => ?_) (fun h45 => ?_)
              · refine ax_iinc_5 (pc := 70) C dX2_timesFirst_70 (1) (by decide) rfl ?_
                refine ax_goto (pc := 73) (tgt := 27) C dX2_timesFirst_73 (by decide) ?_
                refine ax_SLeq (bo_S_t h45).symm ?_ (ih (h + 1) (by omega) (by omega))
                rw [nI_1]
              · obtain ⟨f, hf, ef⟩ := hy.resolve_left h45
                have hf : f < n := hf
                refine ax_aload_0 (pc := 48) C dX2_timesFirst_48 ?_
                refine ax_getR (pc := 49) C fX2_12 dX2_timesFirst_49 rfl rfl ?_
                refine ax_getR (pc := 52) C fX2_55 dX2_timesFirst_52 rfl rfl ?_
                refine ax_aload_0 (pc := 55) C dX2_timesFirst_55 ?_
                refine ax_getR (pc := 56) C fX2_12 dX2_timesFirst_56 rfl rfl ?_
                refine ax_getR (pc := 59) C fX2_52 dX2_timesFirst_59 rfl rfl ?_
                refine ax_iload_5 (pc := 62) C dX2_timesFirst_62 ?_
                refine ax_ian (pc := 64) C dX2_timesFirst_64 rfl (by omega) (by omega) ?_
                refine ax_val C (show _ = nI f by rw [bo_S_ne (by decide)]; exact ef) ?_
                refine ax_dup2 (pc := 65) C dX2_timesFirst_65 rfl rfl ?_
                refine ax_ian (pc := 66) C dX2_timesFirst_66 rfl (by omega) (by omega) ?_
                refine ax_iconst (pc := 67) (v := 1) C dX2_timesFirst_67 (by decide) ?_
                refine ax_iadd (pc := 68) C dX2_timesFirst_68 ?_
                refine ax_isn (pc := 69) C dX2_timesFirst_69 rfl (by omega) (by omega) ?_
                refine ax_iinc_5 (pc := 70) C dX2_timesFirst_70 (1) (by decide) rfl ?_
                refine ax_goto (pc := 73) (tgt := 27) C dX2_timesFirst_73 (by decide) ?_
                refine ax_SLeq (bo_S_f ef (by omega)).symm ?_ (ih (h + 1) (by omega) (by omega))
                rw [nI_1]
        refine ax_iconst (pc := 24) (v := 0) C dX2_timesFirst_24 (by decide) ?_
        refine ax_istore_5 (pc := 25) C dX2_timesFirst_25 rfl ?_
        exact loop 13 0 (by omega) (by omega)
  refine ax_aload_0 (pc := 0) C dX2_timesFirst_0 ?_
  refine ax_getR (pc := 1) C fX2_12 dX2_timesFirst_1 rfl rfl ?_
  refine ax_aload_1 (pc := 4) C dX2_timesFirst_4 ?_
  refine ax_callVv (pc := 5) C (w_X3_become F ax_day ax_now (by decide) ht) kX3_become mX2_18 dX2_timesFirst_5 (by decide) rfl rfl rfl rfl rfl (Nat.le_of_ble_eq_true rfl) rfl ⟨Nat.le_refl _, Nat.le_refl _⟩ ?_
  refine ax_iconst (pc := 8) (v := 0) C dX2_timesFirst_8 (by decide) ?_
  refine ax_istore_4 (pc := 9) C dX2_timesFirst_9 rfl ?_
  exact outer (d0 + 1) 0 none (by omega) (by omega)

set_option maxRecDepth 20000 in
set_option maxHeartbeats 4000000 in
theorem w_X2_costByFord {Y : ax_Y} {ad : Nat → Nat} (F : ax_F Y) {l : Launch} {σ : ax_Z} {c T H P m0 : Nat} (hc : c < 7) (hT : hs_toll (σ 15) 1 = nI T) (hT9 : T ≤ 99) (hH : σ 18 c = nI H) (hH20 : H ≤ 20) (hP : P ≤ 100) (hm0 : m0 ≤ 3) {w : Int32} : ax_m Y ad l iX2_costByFord 2 σ [.ref (ad 28), .ref (ad 14), .int (nI c), .int (nI P), .int (nI m0), .int w] (some (.int (if w = 0 then nI (100 ^ m0 / (Nat.gcd (fd_f T H P m0) (100 ^ m0))) else nI ((fd_f T H P m0) / (Nat.gcd (fd_f T H P m0) (100 ^ m0)))))) σ := by
  refine ax_m.of F kX2_costByFord.1 [some (.ref (ad 28)), some (.ref (ad 14)), some (.int (nI c)), some (.int (nI P)), some (.int (nI m0)), some (.int (w)), none, none, none, none] rfl (Nat.le_of_ble_eq_true rfl) (fun x C => ?_)
  have loop : ∀ (q : Nat) (m : Nat) (z : Option Value), m ≤ m0 → m0 < m + q → ax_S x Y ad 0 0 (ax_Q x Y ad (some (.int (if w = 0 then nI (100 ^ m0 / (Nat.gcd (fd_f T H P m0) (100 ^ m0))) else nI ((fd_f T H P m0) / (Nat.gcd (fd_f T H P m0) (100 ^ m0)))))) 96 (ax_g Y ad σ) 0 0) σ 13 [some (.ref (ad 28)), some (.ref (ad 14)), some (.int (nI c)), some (.int (nI P)), some (.int (nI m0)), some (.int (w)), some (.int (nI (fd_f T H P m))), some (.int (nI (100 ^ m))), some (.int (nI m)), z] [] := by
    intro q
    induction q with
    | zero => intro m z h1 h2; exfalso; omega
    | succ q ih =>
      intro m z h1 h2
      refine ax_iload_8 (pc := 13) C dX2_costByFord_13 ?_
      refine ax_iload_4 (pc := 15) C dX2_costByFord_15 ?_
      refine ax_icmp_ge (pc := 17) (tgt := 67) C dX2_costByFord_17 (by decide) (fun h17 => ?_) (fun h17 => ?_)
      · have hm : m = m0 := by
          have : ¬ m < m0 := fun z => nI_ge z (by omega) h17
          omega
        subst hm
        have hp0 : 0 < 100 ^ m := Nat.pow_pos (by decide)
        have hp1 : 100 ^ m ≤ 100 ^ 3 := Nat.pow_le_pow_right (by decide) hm0
        have hp20 : 100 ^ m < 2 ^ 20 := Nat.lt_of_le_of_lt hp1 (by decide)
        have hg0 : 0 < (Nat.gcd (fd_f T H P m) (100 ^ m)) := Nat.gcd_pos_of_pos_right _ hp0
        have hg1 : (Nat.gcd (fd_f T H P m) (100 ^ m)) ≤ 100 ^ m := Nat.gcd_le_right _ hp0
        have hf27 := fd_27 (T := T) (H := H) (P := P) (m := m) hT9 (by omega)
        refine ax_iload_6 (pc := 67) C dX2_costByFord_67 ?_
        refine ax_iload_7 (pc := 69) C dX2_costByFord_69 ?_
        refine ax_callSi (pc := 71) C (w_X2_commonPart F (A := (fd_f T H P m)) (B := 100 ^ m) (fd_27 hT9 (by omega)) hp0 hp20) kX2_commonPart mX2_64 dX2_costByFord_71 (by decide) rfl rfl (Nat.le_of_ble_eq_true rfl) rfl ⟨Nat.le_refl _, Nat.le_refl _⟩ ?_
        refine ax_istore_8 (pc := 74) C dX2_costByFord_74 rfl ?_
        refine ax_iload_5 (pc := 76) C dX2_costByFord_76 ?_
        refine ax_if_eq (pc := 78) (tgt := 86) C dX2_costByFord_78 (by decide) (fun h78 => ?_) (fun h78 => ?_)
        · refine ax_iload_7 (pc := 86) C dX2_costByFord_86 ?_
          refine ax_iload_8 (pc := 88) C dX2_costByFord_88 ?_
          refine ax_idiv (pc := 90) C dX2_costByFord_90 (nI_ne0 hg0 (by omega)) ?_
          exact ax_ir (pc := 91) C rfl dX2_costByFord_91 (by rw [if_pos h78, pk_div (by omega) hg0 (by omega)]) rfl
        · refine ax_iload_6 (pc := 81) C dX2_costByFord_81 ?_
          refine ax_goto (pc := 83) (tgt := 88) C dX2_costByFord_83 (by decide) ?_
          refine ax_iload_8 (pc := 88) C dX2_costByFord_88 ?_
          refine ax_idiv (pc := 90) C dX2_costByFord_90 (nI_ne0 hg0 (by omega)) ?_
          exact ax_ir (pc := 91) C rfl dX2_costByFord_91 (by rw [if_neg h78, pk_div (by omega) hg0 (by omega)]) rfl
      · have hm : m < m0 := Nat.lt_of_not_le (fun z => h17 (nI_le z (by omega)))
        have hb := fd_bd (P := P) hT9 hH20 (show m < 3 by omega)
        refine ax_iload_7 (pc := 20) C dX2_costByFord_20 ?_
        refine ax_bipush (pc := 22) (v := 100) C dX2_costByFord_22 (by decide) ?_
        refine ax_imul (pc := 24) C dX2_costByFord_24 ?_
        refine ax_val C (show _ = nI (100 ^ (m + 1)) by rw [show (100 : Int32) = nI 100 from rfl, pk_mul, Nat.pow_succ]) ?_
        refine ax_istore_7 (pc := 25) C dX2_costByFord_25 rfl ?_
        refine ax_aload_1 (pc := 27) C dX2_costByFord_27 ?_
        refine ax_getR (pc := 28) C fX2_49 dX2_costByFord_28 rfl rfl ?_
        refine ax_iload_2 (pc := 31) C dX2_costByFord_31 ?_
        refine ax_ian (pc := 32) C dX2_costByFord_32 rfl hc (by decide) ?_
        refine ax_val C hH ?_
        refine ax_iload_7 (pc := 33) C dX2_costByFord_33 ?_
        refine ax_imul (pc := 35) C dX2_costByFord_35 ?_
        refine ax_bipush (pc := 36) (v := 100) C dX2_costByFord_36 (by decide) ?_
        refine ax_iload_3 (pc := 38) C dX2_costByFord_38 ?_
        refine ax_isub (pc := 39) C dX2_costByFord_39 ?_
        refine ax_iload_6 (pc := 40) C dX2_costByFord_40 ?_
        refine ax_imul (pc := 42) C dX2_costByFord_42 ?_
        refine ax_iadd (pc := 43) C dX2_costByFord_43 ?_
        refine ax_val C (show _ = nI (H * 100 ^ (m + 1) + (100 - P) * (fd_f T H P m)) by rw [show (100 : Int32) = nI 100 from rfl, pk_sub hP, pk_mul, pk_mul, nI_add]) ?_
        refine ax_istore_9 (pc := 44) C dX2_costByFord_44 rfl ?_
        refine ax_iload_9 (pc := 46) C dX2_costByFord_46 ?_
        refine ax_aload_1 (pc := 48) C dX2_costByFord_48 ?_
        refine ax_iconst (pc := 49) (v := 1) C dX2_costByFord_49 (by decide) ?_
        refine ax_callVi (pc := 50) C (w_X3_tollFor F ax_now (k := 1) (by decide)) kX3_tollFor mX2_46 dX2_costByFord_50 (by decide) rfl rfl rfl rfl rfl (Nat.le_of_ble_eq_true rfl) rfl ⟨Nat.le_refl _, Nat.le_refl _⟩ ?_
        refine ax_val C hT ?_
        refine ax_iload_7 (pc := 53) C dX2_costByFord_53 ?_
        refine ax_imul (pc := 55) C dX2_costByFord_55 ?_
        refine ax_val C (pk_mul _ _) ?_
        refine ax_min (pc := 56) C (by decide) mi_X2 dX2_costByFord_56 (Nat.le_of_ble_eq_true rfl) rfl ⟨Nat.le_refl _, Nat.le_refl _⟩ ?_
        refine ax_val C (mi_N hb.1 (by omega)) ?_
        refine ax_istore_6 (pc := 59) C dX2_costByFord_59 rfl ?_
        refine ax_iinc_8 (pc := 61) C dX2_costByFord_61 (1) (by decide) rfl ?_
        refine ax_goto (pc := 64) (tgt := 13) C dX2_costByFord_64 (by decide) ?_
        refine ax_Leq ?_ (ih (m + 1) (some (.int (nI (H * 100 ^ (m + 1) + (100 - P) * (fd_f T H P m))))) (by omega) (by omega))
        rw [nI_1]
        rfl
  refine ax_aload_1 (pc := 0) C dX2_costByFord_0 ?_
  refine ax_iconst (pc := 1) (v := 1) C dX2_costByFord_1 (by decide) ?_
  refine ax_callVi (pc := 2) C (w_X3_tollFor F ax_now (k := 1) (by decide)) kX3_tollFor mX2_46 dX2_costByFord_2 (by decide) rfl rfl rfl rfl rfl (Nat.le_of_ble_eq_true rfl) rfl ⟨Nat.le_refl _, Nat.le_refl _⟩ ?_
  refine ax_val C hT ?_
  refine ax_istore_6 (pc := 5) C dX2_costByFord_5 rfl ?_
  refine ax_iconst (pc := 7) (v := 1) C dX2_costByFord_7 (by decide) ?_
  refine ax_istore_7 (pc := 8) C dX2_costByFord_8 rfl ?_
  refine ax_iconst (pc := 10) (v := 0) C dX2_costByFord_10 (by decide) ?_
  refine ax_istore_8 (pc := 11) C dX2_costByFord_11 rfl ?_
  exact loop (m0 + 1) 0 none (by omega) (by omega)

set_option maxRecDepth 20000 in
set_option maxHeartbeats 4000000 in
theorem w_X2_costOfGoat {Y : ax_Y} {ad : Nat → Nat} (F : ax_F Y) {l : Launch} {σ : ax_Z} {n : Nat} (hn : σ 14 10 = nI n) (h6 : n ≤ 6) (ht : σ 14 9 = 0 ∨ σ 14 9 = 1) {c : Nat} (hc : c < n) {hr : Int32} : ax_m Y ad l iX2_costOfGoat 5 σ [.ref (ad 28), .ref (ad 14), .int (nI c), .int hr] (some (.int (dd_x (go_K (hp_K (hp_bc σ 29 14) 29 n) hr) ((hp_bc σ 29 14) 33) c + DP (go_K (hp_K (hp_bc σ 29 14) 29 n) hr) n - dd_x (hp_K (hp_bc σ 29 14) 29 n) ((hp_bc σ 29 14) 33) c))) (hp_dy (gt_S (hp_dy (hp_bc σ 29 14) 29 n) n hr) 29 (n + 1)) := by
  have e10 : hp_bc σ 29 14 29 10 = nI n := by rw [← hn]; unfold hp_bc; rw [up_o (by decide), up_s]
  have e1 : (hp_dy (hp_bc σ 29 14) 29 n) 29 10 = nI n := by rw [hp_dy_o (by decide)]; exact e10
  have q1 : (if (hp_dy (hp_bc σ 29 14) 29 n) 35 c = -1000000 then -1000000 else (hp_dy (hp_bc σ 29 14) 29 n) 33 c * ((hp_dy (hp_bc σ 29 14) 29 n) 35 c - (hp_dy (hp_bc σ 29 14) 29 n) 32 c) + (hp_dy (hp_bc σ 29 14) 29 n) 36 c) = dd_x (hp_K (hp_bc σ 29 14) 29 n) ((hp_bc σ 29 14) 33) c := by
    have a1 : (hp_dy (hp_bc σ 29 14) 29 n) 35 c = DW (hp_K (hp_bc σ 29 14) 29 n) c := hp_dy_w (p := 29) (by omega) (by omega)
    have a2 : (hp_dy (hp_bc σ 29 14) 29 n) 36 c = DP (hp_K (hp_bc σ 29 14) 29 n) c := hp_dy_p (p := 29) (by omega) (by omega)
    have a3 : (hp_dy (hp_bc σ 29 14) 29 n) 33 = (hp_bc σ 29 14) 33 := hp_dy_k (p := 29) (j := 4) (by omega)
    have a4 : (hp_dy (hp_bc σ 29 14) 29 n) 32 = (hp_bc σ 29 14) 32 := hp_dy_k (p := 29) (j := 3) (by omega)
    rw [a1, a2, a3, a4]
    rfl
  have kk : hp_K (gt_S (hp_dy (hp_bc σ 29 14) 29 n) n hr) 29 (n + 1) = go_K (hp_K (hp_bc σ 29 14) 29 n) hr := by rw [gt_S_K, hp_K_dy]
  have q3 : (hp_dy (gt_S (hp_dy (hp_bc σ 29 14) 29 n) n hr) 29 (n + 1)) 36 n = DP (go_K (hp_K (hp_bc σ 29 14) 29 n) hr) n := by
    rw [← kk]
    exact hp_dy_p (p := 29) (by omega) (by omega)
  have q2 : (if (hp_dy (gt_S (hp_dy (hp_bc σ 29 14) 29 n) n hr) 29 (n + 1)) 35 c = -1000000 then -1000000 else (hp_dy (gt_S (hp_dy (hp_bc σ 29 14) 29 n) n hr) 29 (n + 1)) 33 c * ((hp_dy (gt_S (hp_dy (hp_bc σ 29 14) 29 n) n hr) 29 (n + 1)) 35 c - (hp_dy (gt_S (hp_dy (hp_bc σ 29 14) 29 n) n hr) 29 (n + 1)) 32 c) + (hp_dy (gt_S (hp_dy (hp_bc σ 29 14) 29 n) n hr) 29 (n + 1)) 36 c) = dd_x (go_K (hp_K (hp_bc σ 29 14) 29 n) hr) ((hp_bc σ 29 14) 33) c := by
    have a1 : (hp_dy (gt_S (hp_dy (hp_bc σ 29 14) 29 n) n hr) 29 (n + 1)) 35 c = DW (go_K (hp_K (hp_bc σ 29 14) 29 n) hr) c := by
      rw [← kk]
      exact hp_dy_w (p := 29) (by omega) (by omega)
    have a2 : (hp_dy (gt_S (hp_dy (hp_bc σ 29 14) 29 n) n hr) 29 (n + 1)) 36 c = DP (go_K (hp_K (hp_bc σ 29 14) 29 n) hr) c := by
      rw [← kk]
      exact hp_dy_p (p := 29) (by omega) (by omega)
    have a3 : (hp_dy (gt_S (hp_dy (hp_bc σ 29 14) 29 n) n hr) 29 (n + 1)) 33 c = (hp_bc σ 29 14) 33 c := by
      rw [show (hp_dy (gt_S (hp_dy (hp_bc σ 29 14) 29 n) n hr) 29 (n + 1)) 33 = gt_S (hp_dy (hp_bc σ 29 14) 29 n) n hr 33 from hp_dy_k (p := 29) (j := 4) (by omega)]
      unfold gt_S
      simp (disch := omega) only [up_ne, up_o]
      rw [show (hp_dy (hp_bc σ 29 14) 29 n) 33 = (hp_bc σ 29 14) 33 from hp_dy_k (p := 29) (j := 4) (by omega)]
    have a4 : (hp_dy (gt_S (hp_dy (hp_bc σ 29 14) 29 n) n hr) 29 (n + 1)) 32 c = dC.come (go_K (hp_K (hp_bc σ 29 14) 29 n) hr) c := by
      rw [show (hp_dy (gt_S (hp_dy (hp_bc σ 29 14) 29 n) n hr) 29 (n + 1)) 32 = gt_S (hp_dy (hp_bc σ 29 14) 29 n) n hr 32 from hp_dy_k (p := 29) (j := 3) (by omega), ← kk]
    rw [a1, a2, a3, a4]
    rfl
  refine ax_m.of F kX2_costOfGoat.1 [some (.ref (ad 28)), some (.ref (ad 14)), some (.int (nI c)), some (.int (hr)), none, none] rfl (Nat.le_of_ble_eq_true rfl) (fun x C => ?_)
  refine ax_aload_0 (pc := 0) C dX2_costOfGoat_0 ?_
  refine ax_aload_1 (pc := 1) C dX2_costOfGoat_1 ?_
  refine ax_callVr (pc := 2) C (w_X2_dayOf F hn (by omega) ht) kX2_dayOf mX2_67 dX2_costOfGoat_2 (by decide) rfl rfl rfl rfl rfl (Nat.le_of_ble_eq_true rfl) rfl ⟨Nat.le_refl _, Nat.le_refl _⟩ ?_
  refine ax_iload_2 (pc := 5) C dX2_costOfGoat_5 ?_
  refine ax_callVi (pc := 6) C (w_X3_costOf F ax_day (by omega)) kX3_costOf mX2_34 dX2_costOfGoat_6 (by decide) rfl rfl rfl rfl rfl (Nat.le_of_ble_eq_true rfl) rfl ⟨Nat.le_refl _, Nat.le_refl _⟩ ?_
  refine ax_val C q1 ?_
  refine ax_istore_4 (pc := 9) C dX2_costOfGoat_9 rfl ?_
  refine ax_aload_0 (pc := 11) C dX2_costOfGoat_11 ?_
  refine ax_getR (pc := 12) C fX2_12 dX2_costOfGoat_12 rfl rfl ?_
  refine ax_getI (pc := 15) C fX2_38 dX2_costOfGoat_15 rfl rfl ?_
  refine ax_val C e1 ?_
  refine ax_istore_5 (pc := 18) C dX2_costOfGoat_18 rfl ?_
  refine ax_iload_5 (pc := 20) C dX2_costOfGoat_20 ?_
  refine ax_bipush (pc := 22) (v := 7) C dX2_costOfGoat_22 (by decide) ?_
  refine ax_icmp_lt (pc := 24) (tgt := 30) C dX2_costOfGoat_24 (by decide) (fun _ => ?_) (fun z => False.elim (z (nI_lt (b := 7) (by omega) (by decide))))
  refine ax_aload_0 (pc := 30) C dX2_costOfGoat_30 ?_
  refine ax_getR (pc := 31) C fX2_12 dX2_costOfGoat_31 rfl rfl ?_
  refine ax_getR (pc := 34) C fX2_71 dX2_costOfGoat_34 rfl rfl ?_
  refine ax_iload_5 (pc := 37) C dX2_costOfGoat_37 ?_
  refine ax_iconst (pc := 39) (v := 5) C dX2_costOfGoat_39 (by decide) ?_
  refine ax_isn (pc := 40) C dX2_costOfGoat_40 rfl (by omega) (by omega) ?_
  refine ax_aload_0 (pc := 41) C dX2_costOfGoat_41 ?_
  refine ax_getR (pc := 42) C fX2_12 dX2_costOfGoat_42 rfl rfl ?_
  refine ax_getR (pc := 45) C fX2_74 dX2_costOfGoat_45 rfl rfl ?_
  refine ax_iload_5 (pc := 48) C dX2_costOfGoat_48 ?_
  refine ax_iload_3 (pc := 50) C dX2_costOfGoat_50 ?_
  refine ax_isn (pc := 51) C dX2_costOfGoat_51 rfl (by omega) (by omega) ?_
  refine ax_aload_0 (pc := 52) C dX2_costOfGoat_52 ?_
  refine ax_getR (pc := 53) C fX2_12 dX2_costOfGoat_53 rfl rfl ?_
  refine ax_getR (pc := 56) C fX2_49 dX2_costOfGoat_56 rfl rfl ?_
  refine ax_iload_5 (pc := 59) C dX2_costOfGoat_59 ?_
  refine ax_iconst (pc := 61) (v := 0) C dX2_costOfGoat_61 (by decide) ?_
  refine ax_isn (pc := 62) C dX2_costOfGoat_62 rfl (by omega) (by omega) ?_
  refine ax_aload_0 (pc := 63) C dX2_costOfGoat_63 ?_
  refine ax_getR (pc := 64) C fX2_12 dX2_costOfGoat_64 rfl rfl ?_
  refine ax_getR (pc := 67) C fX2_29 dX2_costOfGoat_67 rfl rfl ?_
  refine ax_iload_5 (pc := 70) C dX2_costOfGoat_70 ?_
  refine ax_iconst (pc := 72) (v := 0) C dX2_costOfGoat_72 (by decide) ?_
  refine ax_isn (pc := 73) C dX2_costOfGoat_73 rfl (by omega) (by omega) ?_
  refine ax_aload_0 (pc := 74) C dX2_costOfGoat_74 ?_
  refine ax_getR (pc := 75) C fX2_12 dX2_costOfGoat_75 rfl rfl ?_
  refine ax_dup (pc := 78) C dX2_costOfGoat_78 rfl ?_
  refine ax_getI (pc := 79) C fX2_38 dX2_costOfGoat_79 rfl rfl ?_
  refine ax_iconst (pc := 82) (v := 1) C dX2_costOfGoat_82 (by decide) ?_
  refine ax_iadd (pc := 83) C dX2_costOfGoat_83 ?_
  refine ax_val C (show _ = nI (n + 1) by simp (disch := omega) only [up_ne]; rw [e1, nI_1]) ?_
  refine ax_putI (pc := 84) C fX2_38 dX2_costOfGoat_84 rfl rfl rfl rfl ?_
  refine ax_aload_0 (pc := 87) C dX2_costOfGoat_87 ?_
  refine ax_getR (pc := 88) C fX2_12 dX2_costOfGoat_88 rfl rfl ?_
  refine ax_callVv (pc := 91) C (w_X3_runDay F ax_day (n := n + 1) up_s (by omega)) kX3_runDay mX2_22 dX2_costOfGoat_91 (by decide) rfl rfl rfl rfl rfl (Nat.le_of_ble_eq_true rfl) rfl ⟨Nat.le_refl _, Nat.le_refl _⟩ ?_
  refine ax_aload_0 (pc := 94) C dX2_costOfGoat_94 ?_
  refine ax_getR (pc := 95) C fX2_12 dX2_costOfGoat_95 rfl rfl ?_
  refine ax_iload_2 (pc := 98) C dX2_costOfGoat_98 ?_
  refine ax_callVi (pc := 99) C (w_X3_costOf F ax_day (by omega)) kX3_costOf mX2_34 dX2_costOfGoat_99 (by decide) rfl rfl rfl rfl rfl (Nat.le_of_ble_eq_true rfl) rfl ⟨Nat.le_refl _, Nat.le_refl _⟩ ?_
  refine ax_val C q2 ?_
  refine ax_aload_0 (pc := 102) C dX2_costOfGoat_102 ?_
  refine ax_getR (pc := 103) C fX2_12 dX2_costOfGoat_103 rfl rfl ?_
  refine ax_getR (pc := 106) C fX2_77 dX2_costOfGoat_106 rfl rfl ?_
  refine ax_iload_5 (pc := 109) C dX2_costOfGoat_109 ?_
  refine ax_ian (pc := 111) C dX2_costOfGoat_111 rfl (by omega) (by omega) ?_
  refine ax_val C q3 ?_
  refine ax_iadd (pc := 112) C dX2_costOfGoat_112 ?_
  refine ax_iload_4 (pc := 113) C dX2_costOfGoat_113 ?_
  refine ax_isub (pc := 115) C dX2_costOfGoat_115 ?_
  exact ax_ir (pc := 116) C rfl dX2_costOfGoat_116 rfl rfl
