section PMP
variable {σ : ax_Z} {b : Nat → Int32} {N c : Nat} {z : Nat × Nat}
theorem mr_19 (h : ¬ z.2 = 0) : mr σ b N z 77 19 = nI (tkS b N (EE b N z.1)) := by
  unfold mr
  rw [up_s, if_neg h]
theorem mr_begin {v : Int32} : mx_st (ax_up (ax_up σ 77 14 v) 77 18 0) (tkS b N 0) (tkE b N 0) (tkK b N 0) = mr σ b N (0, 0) := by
  funext x y
  by_cases h7 : x = 77
  · subst h7
    show mx_st (ax_up (ax_up σ 77 14 v) 77 18 0) (tkS b N (EE b N 0)) (EE b N (0 + 1)) (tkK b N (EE b N 0)) 77 y = mr σ b N (0, 0) 77 y
    unfold mr mx_st
    simp only [ax_up, true_and, if_true]
    by_cases h14 : y = 14
    · simp [h14]
    by_cases h18 : y = 18
    · simp [h18]; rfl
    by_cases h19 : y = 19
    · simp [h19]
    simp [h14, h18, h19]
  · rw [mr_ne h7]
    unfold mx_st
    simp (disch := omega) only [up_ne]
/-- carts as long as their word stands there -/
def pm_L (b : Nat → Int32) (N : Nat) : Nat → ax_Z → Nat → Nat × Nat → ax_Z × (Nat × Nat)
  | 0, τ, _, z => (τ, z)
  | q + 1, τ, c, z => if pm_n b N z = 1667330676 then pm_L b N q (pm_cf τ b N c z) (c + 1) (pm_c7 b N c z) else (τ, z)
def pm_fin (b : Nat → Int32) (N : Nat) (z : Nat × Nat) : Nat × Nat := if z.2 = 0 then (if tK b N z.1 = 0 then z else (z.1, 1)) else z
theorem pm_n_0 {v : Int64} (h : pm_n b N z = v) (hv : v ≠ 0) : z.2 = 0 := by
  by_cases h0 : z.2 = 0
  · exact h0
  · rw [pm_n, if_neg h0] at h
    exact absurd h.symm hv
theorem pm_cf_ne {k : Nat} (h : k ≠ 82) : pm_cf σ b N c z k = σ k := by
  unfold pm_cf mcar
  split
  · simp (disch := omega) only [up_ne]
  · rfl
theorem pm_cf_c (h : (pm_c7 b N c z).2 = 0) : pm_cf σ b N c z 82 0 = nI (c + 1) := by
  unfold pm_cf mcar
  rw [if_pos h, up_s]
/-- the text's start: tolls and carts -/
def mp_z1 (b : Nat → Int32) (N : Nat) : Nat × Nat := pm_must (decide (pm_n b N (0, 0) = 1953459308)) (0, 0)
def mp_z3 (b : Nat → Int32) (N : Nat) : Nat × Nat := pm_end b N (pm_tz b N (mp_z1 b N) 6)
def mp_0 (σ : ax_Z) (N : Nat) : ax_Z := fin (ax_up (ax_up (ax_up σ 77 0 0) 77 13 (nI N)) 77 11 0) 82 0 44 0
def mp_3 (σ : ax_Z) (b : Nat → Int32) (N : Nat) : ax_Z := pm_tf (mp_0 σ N) b N (mp_z1 b N) 6
def mp_L (σ : ax_Z) (b : Nat → Int32) (N : Nat) : ax_Z × (Nat × Nat) := pm_L b N 8 (mp_3 σ b N) 0 (mp_z3 b N)
def mp_z (σ : ax_Z) (b : Nat → Int32) (N : Nat) : Nat × Nat := pm_fin b N (mp_L σ b N).2
def mp_r (σ : ax_Z) (b : Nat → Int32) (N : Nat) : ax_Z := mr (mp_L σ b N).1 b N (mp_z σ b N)
def mp_ok (σ : ax_Z) (b : Nat → Int32) (N : Nat) : ax_Z := cpn (ax_up (ax_up (mp_r σ b N) 77 7 1) 77 9 0) 82 0 81 0 44
theorem mp_0_ne {k : Nat} (h : k ≠ 77) (h2 : k ≠ 82) : mp_0 σ N k = σ k := by
  unfold mp_0
  rw [fin_ne h2, up_ne h, up_ne h, up_ne h]
theorem mp_0_13 : mp_0 σ N 77 13 = nI N := by
  unfold mp_0
  rw [fin_ne (by decide), up_o (by decide), up_s]
theorem mp_0_82 : mp_0 σ N 82 0 = 0 := by
  unfold mp_0 fin
  rw [if_pos (by decide)]
theorem mp_3_82 : mp_3 σ b N 82 0 = nI 0 := by
  unfold mp_3
  simp only [pm_tf]
  simp (disch := decide) only [up_o]
  exact mp_0_82
theorem fin_mr {n : Nat} : ax_up (mr (fin σ 82 0 n 0) b N z) 82 n 0 = mr (fin σ 82 0 (n + 1) 0) b N z := by
  rw [mr_up (by decide), ← fin_s, Nat.zero_add]
end PMP

set_option maxRecDepth 20000 in
set_option maxHeartbeats 4000000 in
theorem w_X7_begin {Y : ax_Y} {ad : Nat → Nat} (F : ax_F Y) {l : Launch} {σ : ax_Z} {b : Nat → Int32} {N : Nat} (hN : σ 77 11 = nI N) (h400 : N ≤ 400) (hb : σ 84 = b) (hb0 : ∀ i, i < N → b i ≠ -1000000) : ax_m Y ad l iX7_begin 2 σ [.ref (ad 77)] none (mr (ax_up (ax_up σ 77 13 (nI N)) 77 11 0) b N (0, 0)) := by
  refine ax_m.of F kX7_begin.1 [some (.ref (ad 77))] rfl (Nat.le_of_ble_eq_true rfl) (fun x C => ?_)
  refine ax_aload_0 (pc := 0) C dX7_begin_0 ?_
  refine ax_aload_0 (pc := 1) C dX7_begin_1 ?_
  refine ax_getI (pc := 2) C fX7_92 dX7_begin_2 rfl rfl ?_
  refine ax_val C hN ?_
  refine ax_putI (pc := 5) C fX7_98 dX7_begin_5 rfl rfl rfl rfl ?_
  refine ax_aload_0 (pc := 8) C dX7_begin_8 ?_
  refine ax_iconst (pc := 9) (v := 0) C dX7_begin_9 (by decide) ?_
  refine ax_putI (pc := 10) C fX7_92 dX7_begin_10 rfl rfl rfl rfl ?_
  refine ax_aload_0 (pc := 13) C dX7_begin_13 ?_
  refine ax_iconst (pc := 14) (v := 0) C dX7_begin_14 (by decide) ?_
  refine ax_putI (pc := 15) C fX7_102 dX7_begin_15 rfl rfl rfl rfl ?_
  refine ax_aload_0 (pc := 18) C dX7_begin_18 ?_
  refine ax_iconst (pc := 19) (v := 0) C dX7_begin_19 (by decide) ?_
  refine ax_putI (pc := 20) C fX7_123 dX7_begin_20 rfl rfl rfl rfl ?_
  refine ax_aload_0 (pc := 23) C dX7_begin_23 ?_
  refine ax_callVv (pc := 24) C (w_X7_next F (N := N) (e := 0) (by simp (disch := decide) only [up_o, up_s]) h400 (by simp (disch := decide) only [up_ne]; exact hb) hb0 (by rw [up_o (by decide), up_s]; rfl) (Nat.zero_le N)) kX7_next mX7_126 dX7_begin_24 (by decide) rfl rfl rfl rfl rfl (Nat.le_of_ble_eq_true rfl) rfl ⟨Nat.le_refl _, Nat.le_refl _⟩ ?_
  exact ax_vr (pc := 27) C rfl dX7_begin_27 mr_begin.symm

set_option maxRecDepth 20000 in
set_option maxHeartbeats 4000000 in
theorem w_X7_pass {Y : ax_Y} {ad : Nat → Nat} (F : ax_F Y) {l : Launch} {σ : ax_Z} {b : Nat → Int32} {N : Nat} (hN : σ 77 11 = nI N) (h400 : N ≤ 400) (hb : σ 84 = b) (hb0 : ∀ i, i < N → b i ≠ -1000000) : ax_m Y ad l iX7_pass 5 σ [.ref (ad 77)] (some (.int (if (mp_z σ b N).2 = 0 then mp_ok σ b N 81 0 else -1000100 - nI (tkS b N (EE b N (mp_z σ b N).1))))) (if (mp_z σ b N).2 = 0 then mp_ok σ b N else ax_up (mp_r σ b N) 77 12 (nI (mp_z σ b N).2)) := by
  refine ax_m.of F kX7_pass.1 [some (.ref (ad 77)), none] rfl (Nat.le_of_ble_eq_true rfl) (fun x C => ?_)
  have l3 : ∀ (q : Nat) (k : Nat), k ≤ 44 → (mp_z σ b N).2 = 0 → 44 < k + q → ax_S x Y ad 0 0 (ax_Q x Y ad (some (.int (if (mp_z σ b N).2 = 0 then mp_ok σ b N 81 0 else -1000100 - nI (tkS b N (EE b N (mp_z σ b N).1))))) 96 (ax_g Y ad (if (mp_z σ b N).2 = 0 then mp_ok σ b N else ax_up (mp_r σ b N) 77 12 (nI (mp_z σ b N).2))) 0 0) (cpn (ax_up (ax_up (mp_r σ b N) 77 7 1) 77 9 0) 82 0 81 0 k) 107 [some (.ref (ad 77)), some (.int (nI k))] [] := by
    intro q
    induction q with
    | zero => intro k h1 hz h2; exfalso; omega
    | succ q ih =>
      intro k h1 hz h2
      refine ax_iload_1 (pc := 107) C dX7_pass_107 ?_
      refine ax_bipush (pc := 108) (v := 44) C dX7_pass_108 (by decide) ?_
      refine ax_icmp_ge (pc := 110) (tgt := 131) C dX7_pass_110 (by decide) (fun h110 => ?_) (fun h110 => ?_)
      · have hk4 : k = 44 := Nat.le_antisymm h1 (Nat.le_of_not_lt (fun q => nI_ge (a := k) (b := 44) q (by decide) h110))
        refine ax_aload_0 (pc := 131) C dX7_pass_131 ?_
        refine ax_getR (pc := 132) C fX7_19 dX7_pass_132 rfl rfl ?_
        refine ax_iconst (pc := 135) (v := 0) C dX7_pass_135 (by decide) ?_
        refine ax_iae (pc := 136) (c := 0) C dX7_pass_136 rfl rfl (by decide) (by decide) ?_
        exact ax_ir (pc := 137) C rfl dX7_pass_137 (by rw [if_pos hz, hk4]; rfl) (by rw [if_pos hz, hk4]; rfl)
      · have hk4 : k < 44 := Nat.lt_of_not_le (fun q => h110 (nI_le (a := 44) q (by omega)))
        refine ax_aload_0 (pc := 113) C dX7_pass_113 ?_
        refine ax_getR (pc := 114) C fX7_19 dX7_pass_114 rfl rfl ?_
        refine ax_iload_1 (pc := 117) C dX7_pass_117 ?_
        refine ax_aload_0 (pc := 118) C dX7_pass_118 ?_
        refine ax_getR (pc := 119) C fX7_22 dX7_pass_119 rfl rfl ?_
        refine ax_iload_1 (pc := 122) C dX7_pass_122 ?_
        refine ax_ian (pc := 123) C dX7_pass_123 rfl (by omega) (by omega) ?_
        refine ax_val C (show _ = cpn (ax_up (ax_up (mp_r σ b N) 77 7 1) 77 9 0) 82 0 81 0 k 82 (0 + k) by rw [Nat.zero_add]) ?_
        refine ax_isn (pc := 124) C dX7_pass_124 rfl (by omega) (by omega) ?_
        refine ax_iinc_1 (pc := 125) C dX7_pass_125 (1) (by decide) rfl ?_
        refine ax_goto (pc := 128) (tgt := 107) C dX7_pass_128 (by decide) ?_
        refine ax_SLeq (by have q := cpn_s (σ := (ax_up (ax_up (mp_r σ b N) 77 7 1) 77 9 0)) (k1 := 82) (s := 0) (k2 := 81) (d := 0) (n := k) (by decide); rw [Nat.zero_add] at q; rw [Nat.zero_add]; exact q) (by rw [nI_1]) (ih (k + 1) (by omega) hz (by omega))
  have hz3 : (mp_L σ b N).2.2 < 4 → ax_S x Y ad 0 0 (ax_Q x Y ad (some (.int (if (mp_z σ b N).2 = 0 then mp_ok σ b N 81 0 else -1000100 - nI (tkS b N (EE b N (mp_z σ b N).1))))) 96 (ax_g Y ad (if (mp_z σ b N).2 = 0 then mp_ok σ b N else ax_up (mp_r σ b N) 77 12 (nI (mp_z σ b N).2))) 0 0) (mr (mp_L σ b N).1 b N (mp_L σ b N).2) 52 [some (.ref (ad 77)), some (.int (nI 44))] [] := by
    intro hzl
    have hZ4 : (mp_z σ b N).2 < 4 := by
      unfold mp_z pm_fin
      split
      · split
        · exact hzl
        · exact (show 1 < 4 by decide)
      · exact hzl
    have c72 : ax_S x Y ad 0 0 (ax_Q x Y ad (some (.int (if (mp_z σ b N).2 = 0 then mp_ok σ b N 81 0 else -1000100 - nI (tkS b N (EE b N (mp_z σ b N).1))))) 96 (ax_g Y ad (if (mp_z σ b N).2 = 0 then mp_ok σ b N else ax_up (mp_r σ b N) 77 12 (nI (mp_z σ b N).2))) 0 0) (mp_r σ b N) 72 [some (.ref (ad 77)), some (.int (nI 44))] [] := by
      refine ax_aload_0 (pc := 72) C dX7_pass_72 ?_
      refine ax_getI (pc := 73) C fX7_123 dX7_pass_73 rfl rfl ?_
      refine ax_val C mr_18 ?_
      refine ax_if_le (pc := 76) (tgt := 95) C dX7_pass_76 (by decide) (fun h76 => ?_) (fun h76 => ?_)
      · have hz : (mp_z σ b N).2 = 0 := Nat.eq_zero_of_not_pos (fun q => nI_nle q (by omega) h76)
        refine ax_aload_0 (pc := 95) C dX7_pass_95 ?_
        refine ax_iconst (pc := 96) (v := 1) C dX7_pass_96 (by decide) ?_
        refine ax_putI (pc := 97) C fX7_186 dX7_pass_97 rfl rfl rfl rfl ?_
        refine ax_aload_0 (pc := 100) C dX7_pass_100 ?_
        refine ax_iconst (pc := 101) (v := 0) C dX7_pass_101 (by decide) ?_
        refine ax_putI (pc := 102) C fX7_190 dX7_pass_102 rfl rfl rfl rfl ?_
        refine ax_iconst (pc := 105) (v := 0) C dX7_pass_105 (by decide) ?_
        refine ax_istore_1 (pc := 106) C dX7_pass_106 rfl ?_
        refine ax_SLeq (cpn_0).symm rfl (l3 45 0 (by omega) hz (by omega))
      · have hz : ¬ (mp_z σ b N).2 = 0 := fun q => h76 (by show nI (mp_z σ b N).2 ≤ 0; rw [q]; decide)
        refine ax_aload_0 (pc := 79) C dX7_pass_79 ?_
        refine ax_aload_0 (pc := 80) C dX7_pass_80 ?_
        refine ax_getI (pc := 81) C fX7_123 dX7_pass_81 rfl rfl ?_
        refine ax_val C mr_18 ?_
        refine ax_putI (pc := 84) C fX7_182 dX7_pass_84 rfl rfl rfl rfl ?_
        refine ax_ldc (pc := 87) C dX7_pass_87 qX7_185 ?_
        refine ax_aload_0 (pc := 89) C dX7_pass_89 ?_
        refine ax_getI (pc := 90) C fX7_129 dX7_pass_90 rfl rfl ?_
        refine ax_val C (show _ = nI (tkS b N (EE b N (mp_z σ b N).1)) by rw [up_o (by decide)]; exact mr_19 hz) ?_
        refine ax_isub (pc := 93) C dX7_pass_93 ?_
        exact ax_ir (pc := 94) C rfl dX7_pass_94 (by rw [if_neg hz]) (by rw [if_neg hz])
    refine ax_aload_0 (pc := 52) C dX7_pass_52 ?_
    refine ax_getI (pc := 53) C fX7_123 dX7_pass_53 rfl rfl ?_
    refine ax_val C mr_18 ?_
    refine ax_if_ne (pc := 56) (tgt := 72) C dX7_pass_56 (by decide) (fun h56 => ?_) (fun h56 => ?_)
    · have h56 : ¬ (mp_L σ b N).2.2 = 0 := fun q => h56 (by show nI (mp_L σ b N).2.2 = 0; rw [q]; rfl)
      exact ax_Seq (congrArg (mr (mp_L σ b N).1 b N) (show _ = (mp_z σ b N) by rw [mp_z, pm_fin, if_neg h56])) c72
    · have h56 : (mp_L σ b N).2.2 = 0 := (nI_eq (b := 0) (by omega) (by decide)).mp h56
      refine ax_aload_0 (pc := 59) C dX7_pass_59 ?_
      refine ax_getI (pc := 60) C fX7_111 dX7_pass_60 rfl rfl ?_
      refine ax_iconst (pc := 63) (v := 1) C dX7_pass_63 (by decide) ?_
      refine ax_icmp_eq (pc := 64) (tgt := 72) C dX7_pass_64 (by decide) (fun h64 => ?_) (fun h64 => ?_)
      · have h64 : tK b N (mp_L σ b N).2.1 = 0 := mr_K1.mp h64
        exact ax_Seq (congrArg (mr (mp_L σ b N).1 b N) (show _ = (mp_z σ b N) by rw [mp_z, pm_fin, if_pos h56, if_pos h64])) c72
      · have h64 : ¬ tK b N (mp_L σ b N).2.1 = 0 := fun q => h64 (mr_K1.mpr q)
        refine ax_aload_0 (pc := 67) C dX7_pass_67 ?_
        refine ax_iconst (pc := 68) (v := 1) C dX7_pass_68 (by decide) ?_
        refine ax_callVv (pc := 69) C (w_X7_bad F) kX7_bad mX7_132 dX7_pass_69 (by decide) rfl rfl rfl rfl rfl (Nat.le_of_ble_eq_true rfl) rfl ⟨Nat.le_refl _, Nat.le_refl _⟩ ?_
        refine ax_Seq (mr_bad (k := 1) rfl (by decide) hzl) ?_
        exact ax_Seq (congrArg (mr (mp_L σ b N).1 b N) (show _ = (mp_z σ b N) by rw [mp_z, pm_fin, if_pos h56, if_neg h64, pm_bad, if_pos h56])) c72
  have l2 : ∀ (q : Nat) (τ : ax_Z) (c : Nat) (z : Nat × Nat), pm_L b N q τ c z = (mp_L σ b N) → τ 77 13 = nI N → τ 84 = b → z.2 < 4 → (z.2 = 0 → τ 82 0 = nI c ∧ c ≤ 6) → c ≤ 7 → c + q = 8 → ax_S x Y ad 0 0 (ax_Q x Y ad (some (.int (if (mp_z σ b N).2 = 0 then mp_ok σ b N 81 0 else -1000100 - nI (tkS b N (EE b N (mp_z σ b N).1))))) 96 (ax_g Y ad (if (mp_z σ b N).2 = 0 then mp_ok σ b N else ax_up (mp_r σ b N) 77 12 (nI (mp_z σ b N).2))) 0 0) (mr τ b N z) 34 [some (.ref (ad 77)), some (.int (nI 44))] [] := by
    intro q
    induction q with
    | zero => intro τ c z hL e13 e84 hz hc h7 h8; exfalso; omega
    | succ q ih =>
      intro τ c z hL e13 e84 hz hc h7 h8
      refine ax_aload_0 (pc := 34) C dX7_pass_34 ?_
      refine ax_callVl (pc := 35) C (w_X7_name F mr_16 mr_17 (tkE_le (EE_le _)).1 (Nat.le_trans (EE_le _) h400)) kX7_name mX7_154 dX7_pass_35 (by decide) rfl rfl rfl rfl rfl (Nat.le_of_ble_eq_true rfl) rfl ⟨Nat.le_refl _, Nat.le_refl _⟩ ?_
      refine ax_lval C (mr_n hz e84) ?_
      refine ax_ldc2 (pc := 38) C dX7_pass_38 qX7_177 ?_
      refine ax_lcmp (pc := 41) C dX7_pass_41 ?_
      refine ax_if_ne (pc := 42) (tgt := 52) C dX7_pass_42 (by decide) (fun h42 => ?_) (fun h42 => ?_)
      · have hn : ¬ pm_n b N z = 1667330676 := fun q => h42 ((lg_cmp_eq _ _).mpr q)
        rw [pm_L, if_neg hn] at hL
        have e1 := congrArg Prod.fst hL
        have e2 := congrArg Prod.snd hL
        simp only at e1 e2
        rw [e1, e2]
        exact hz3 (by rw [← e2]; exact hz)
      · have hn : pm_n b N z = 1667330676 := (lg_cmp_eq _ _).mp h42
        rw [pm_L, if_pos hn] at hL
        refine ax_aload_0 (pc := 45) C dX7_pass_45 ?_
        refine ax_callVv (pc := 46) C (w_X7_readCart F e13 h400 e84 hb0 hz (hc (pm_n_0 hn (by decide))).1 (hc (pm_n_0 hn (by decide))).2) kX7_readCart mX7_179 dX7_pass_46 (by decide) rfl rfl rfl rfl rfl (Nat.le_of_ble_eq_true rfl) rfl ⟨Nat.le_refl _, Nat.le_refl _⟩ ?_
        refine ax_goto (pc := 49) (tgt := 34) C dX7_pass_49 (by decide) ?_
        exact ih _ (c + 1) _ hL (by rw [pm_cf_ne (by decide)]; exact e13) (by rw [pm_cf_ne (by decide)]; exact e84) (pm_c7_lt hz) (fun q => ⟨pm_cf_c q, pm_c7_6 q (hc (pm_n_0 hn (by decide))).2⟩) (by have := (hc (pm_n_0 hn (by decide))).2; omega) (by omega)
  have l1 : ∀ (q : Nat) (k : Nat), k ≤ 44 → 44 < k + q → ax_S x Y ad 0 0 (ax_Q x Y ad (some (.int (if (mp_z σ b N).2 = 0 then mp_ok σ b N 81 0 else -1000100 - nI (tkS b N (EE b N (mp_z σ b N).1))))) 96 (ax_g Y ad (if (mp_z σ b N).2 = 0 then mp_ok σ b N else ax_up (mp_r σ b N) 77 12 (nI (mp_z σ b N).2))) 0 0) (mr (fin (ax_up (ax_up (ax_up σ 77 0 0) 77 13 (nI N)) 77 11 0) 82 0 k 0) b N (0, 0)) 11 [some (.ref (ad 77)), some (.int (nI k))] [] := by
    intro q
    induction q with
    | zero => intro k h1 h2; exfalso; omega
    | succ q ih =>
      intro k h1 h2
      refine ax_iload_1 (pc := 11) C dX7_pass_11 ?_
      refine ax_bipush (pc := 12) (v := 44) C dX7_pass_12 (by decide) ?_
      refine ax_icmp_ge (pc := 14) (tgt := 30) C dX7_pass_14 (by decide) (fun h14 => ?_) (fun h14 => ?_)
      · have hk4 : k = 44 := Nat.le_antisymm h1 (Nat.le_of_not_lt (fun q => nI_ge (a := k) (b := 44) q (by decide) h14))
        subst hk4
        refine ax_aload_0 (pc := 30) C dX7_pass_30 ?_
        refine ax_callVv (pc := 31) C (w_X7_readToll F (σ := mp_0 σ N) mp_0_13 h400 ((mp_0_ne (by decide) (by decide)).trans hb) hb0 (z := (0, 0)) (show (0 : Nat) < 4 by decide)) kX7_readToll mX7_174 dX7_pass_31 (by decide) rfl rfl rfl rfl rfl (Nat.le_of_ble_eq_true rfl) rfl ⟨Nat.le_refl _, Nat.le_refl _⟩ ?_
        exact l2 8 (mp_3 σ b N) 0 (mp_z3 b N) rfl (by unfold mp_3; rw [pm_tf_ne (by decide)]; exact mp_0_13) (by unfold mp_3; rw [pm_tf_ne (by decide), mp_0_ne (by decide) (by decide)]; exact hb) (pm_end_lt (pm_tz_lt (pm_must_lt (show (0 : Nat) < 4 by decide)) 6)) (fun _ => ⟨mp_3_82, by decide⟩) (by decide) rfl
      · have hk4 : k < 44 := Nat.lt_of_not_le (fun q => h14 (nI_le (a := 44) q (by omega)))
        refine ax_aload_0 (pc := 17) C dX7_pass_17 ?_
        refine ax_getR (pc := 18) C fX7_22 dX7_pass_18 rfl rfl ?_
        refine ax_iload_1 (pc := 21) C dX7_pass_21 ?_
        refine ax_iconst (pc := 22) (v := 0) C dX7_pass_22 (by decide) ?_
        refine ax_isn (pc := 23) C dX7_pass_23 rfl (by omega) (by omega) ?_
        refine ax_iinc_1 (pc := 24) C dX7_pass_24 (1) (by decide) rfl ?_
        refine ax_goto (pc := 27) (tgt := 11) C dX7_pass_27 (by decide) ?_
        refine ax_SLeq fin_mr (by rw [nI_1]) (ih (k + 1) (by omega) (by omega))
  refine ax_aload_0 (pc := 0) C dX7_pass_0 ?_
  refine ax_iconst (pc := 1) (v := 0) C dX7_pass_1 (by decide) ?_
  refine ax_putI (pc := 2) C fX7_65 dX7_pass_2 rfl rfl rfl rfl ?_
  refine ax_aload_0 (pc := 5) C dX7_pass_5 ?_
  refine ax_callVv (pc := 6) C (w_X7_begin F (σ := ax_up σ 77 0 0) (by rw [up_o (by decide)]; exact hN) h400 (by rw [up_ne (by decide)]; exact hb) hb0) kX7_begin mX7_171 dX7_pass_6 (by decide) rfl rfl rfl rfl rfl (Nat.le_of_ble_eq_true rfl) rfl ⟨Nat.le_refl _, Nat.le_refl _⟩ ?_
  refine ax_iconst (pc := 9) (v := 0) C dX7_pass_9 (by decide) ?_
  refine ax_istore_1 (pc := 10) C dX7_pass_10 rfl ?_
  refine ax_SLeq (by rw [fin_0]) rfl (l1 45 0 (by omega) (by omega))
