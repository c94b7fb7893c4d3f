/-- a cart, as the reference reads it: c carts stand already -/
def pm_c1 (c : Nat) (z : Nat × Nat) : Nat × Nat := if c = 6 then pm_bad 3 z else z
def pm_c2 (c : Nat) (z : Nat × Nat) : Nat × Nat := pm_must true (pm_c1 c z)
def pm_kb (v : Int64) : Int32 := (if v = 2002872692 then 1 else (if v = 26479 then 4 else (if v = 1718579821 then 2 else (if v = 1650549611 then 3 else (if v = 422725643876 then 5 else -1000000)))))
def pm_kd (b : Nat → Int32) (N c : Nat) (z : Nat × Nat) : Int32 := pm_kb (pm_n b N (pm_c2 c z))
def pm_c3 (b : Nat → Int32) (N c : Nat) (z : Nat × Nat) : Nat × Nat := pm_must (decide (¬ pm_kd b N c z = -1000000)) (pm_c2 c z)
def pm_c4 (b : Nat → Int32) (N c : Nat) (z : Nat × Nat) : Nat × Nat := pm_num b N 11 (pm_c3 b N c z)
def pm_c5 (b : Nat → Int32) (N c : Nat) (z : Nat × Nat) : Nat × Nat := pm_num b N 20 (pm_c4 b N c z)
def pm_c6 (b : Nat → Int32) (N c : Nat) (z : Nat × Nat) : Nat × Nat := pm_num b N 11 (pm_c5 b N c z)
def pm_c7 (b : Nat → Int32) (N c : Nat) (z : Nat × Nat) : Nat × Nat := pm_end b N (pm_c6 b N c z)
def mcar (σ : ax_Z) (c : Nat) (k v1 v2 v3 : Int32) : ax_Z := ax_up (ax_up (ax_up (ax_up (ax_up (ax_up σ 82 (8 + 6 * c) k) 82 (8 + 6 * c + 1) v1) 82 (8 + 6 * c + 2) v2) 82 (8 + 6 * c + 3) v3) 82 (8 + 6 * c + 4) (-1000000)) 82 0 (nI (c + 1))
def pm_cf (σ : ax_Z) (b : Nat → Int32) (N c : Nat) (z : Nat × Nat) : ax_Z := if (pm_c7 b N c z).2 = 0 then mcar σ c (pm_kd b N c z) (pm_val b N (pm_c3 b N c z)) (pm_val b N (pm_c4 b N c z)) (pm_val b N (pm_c5 b N c z)) else σ
section PMC
variable {σ : ax_Z} {b : Nat → Int32} {N c : Nat} {z : Nat × Nat}
theorem pm_end_lt (hz : z.2 < 4) : (pm_end b N z).2 < 4 := pm_must_lt hz
theorem pm_end_n (h : ¬ z.2 = 0) : pm_end b N z = z := pm_must_n h
theorem pm_c1_lt (hz : z.2 < 4) : (pm_c1 c z).2 < 4 := by
  unfold pm_c1
  split
  · exact pm_bad_lt hz (by decide)
  · exact hz
theorem pm_c2_lt (hz : z.2 < 4) : (pm_c2 c z).2 < 4 := pm_must_lt (pm_c1_lt hz)
theorem pm_c3_lt (hz : z.2 < 4) : (pm_c3 b N c z).2 < 4 := pm_must_lt (pm_c2_lt hz)
theorem pm_c4_lt (hz : z.2 < 4) : (pm_c4 b N c z).2 < 4 := pm_num_lt (pm_c3_lt hz)
theorem pm_c5_lt (hz : z.2 < 4) : (pm_c5 b N c z).2 < 4 := pm_num_lt (pm_c4_lt hz)
theorem pm_c6_lt (hz : z.2 < 4) : (pm_c6 b N c z).2 < 4 := pm_num_lt (pm_c5_lt hz)
theorem pm_c7_lt (hz : z.2 < 4) : (pm_c7 b N c z).2 < 4 := pm_end_lt (pm_c6_lt hz)
theorem pm_c7_1 (h : ¬ (pm_c1 c z).2 = 0) : pm_c7 b N c z = pm_c1 c z := by
  have h2 : pm_c2 c z = pm_c1 c z := pm_must_n h
  have h3 : pm_c3 b N c z = pm_c1 c z := by rw [pm_c3, h2, pm_must_n h]
  have h4 : pm_c4 b N c z = pm_c1 c z := by rw [pm_c4, h3, pm_num_n h]
  have h5 : pm_c5 b N c z = pm_c1 c z := by rw [pm_c5, h4, pm_num_n h]
  have h6 : pm_c6 b N c z = pm_c1 c z := by rw [pm_c6, h5, pm_num_n h]
  rw [pm_c7, h6, pm_end_n h]
theorem pm_c7_6 (h : (pm_c7 b N c z).2 = 0) (h6 : c ≤ 6) : c < 6 := by
  refine Nat.lt_of_le_of_ne h6 (fun e => ?_)
  have h1 : ¬ (pm_c1 c z).2 = 0 := by
    unfold pm_c1
    rw [if_pos e]
    exact pm_bad_ne (by decide)
  rw [pm_c7_1 h1] at h
  exact h1 h
theorem ix86 {c : Nat} : (8 : Int32) + 6 * nI c = nI (8 + 6 * c) := by rw [show (6 : Int32) = nI 6 from rfl, show (8 : Int32) = nI 8 from rfl, pk_mul, nI_add]
end PMC

set_option maxRecDepth 20000 in
set_option maxHeartbeats 4000000 in
theorem w_X7_readCart {Y : ax_Y} {ad : Nat → Nat} (F : ax_F Y) {l : Launch} {σ : ax_Z} {b : Nat → Int32} {N : Nat} (hN : σ 77 13 = nI N) (h400 : N ≤ 400) (hb : σ 84 = b) (hb0 : ∀ i, i < N → b i ≠ -1000000) {z : Nat × Nat} (hz : z.2 < 4) {c : Nat} (hc : σ 82 0 = nI c) (h6 : c ≤ 6) : ax_m Y ad l iX7_readCart 4 (mr σ b N z) [.ref (ad 77)] none (mr (pm_cf σ b N c z) b N (pm_c7 b N c z)) := by
  refine ax_m.of F kX7_readCart.1 [some (.ref (ad 77)), none, none, none, none, none] rfl (Nat.le_of_ble_eq_true rfl) (fun x C => ?_)
  have cont2 : ax_S x Y ad 0 0 (ax_Q x Y ad none 96 (ax_g Y ad (mr (pm_cf σ b N c z) b N (pm_c7 b N c z))) 0 0) (mr σ b N (pm_c3 b N c z)) 51 [some (.ref (ad 77)), some (.int ((pm_kd b N c z))), none, none, none, none] [] := by
    refine ax_aload_0 (pc := 51) C dX7_readCart_51 ?_
    refine ax_iconst (pc := 52) (v := 0) C dX7_readCart_52 (by decide) ?_
    refine ax_bipush (pc := 53) (v := 11) C dX7_readCart_53 (by decide) ?_
    refine ax_callVi (pc := 55) C (w_X7_number F hN h400 hb hb0 (pm_c3_lt hz) 11) kX7_number mX7_160 dX7_readCart_55 (by decide) rfl rfl rfl rfl rfl (Nat.le_of_ble_eq_true rfl) rfl ⟨Nat.le_refl _, Nat.le_refl _⟩ ?_
    refine ax_istore_2 (pc := 58) C dX7_readCart_58 rfl ?_
    refine ax_aload_0 (pc := 59) C dX7_readCart_59 ?_
    refine ax_iconst (pc := 60) (v := 0) C dX7_readCart_60 (by decide) ?_
    refine ax_bipush (pc := 61) (v := 20) C dX7_readCart_61 (by decide) ?_
    refine ax_callVi (pc := 63) C (w_X7_number F hN h400 hb hb0 (pm_c4_lt hz) 20) kX7_number mX7_160 dX7_readCart_63 (by decide) rfl rfl rfl rfl rfl (Nat.le_of_ble_eq_true rfl) rfl ⟨Nat.le_refl _, Nat.le_refl _⟩ ?_
    refine ax_istore_3 (pc := 66) C dX7_readCart_66 rfl ?_
    refine ax_aload_0 (pc := 67) C dX7_readCart_67 ?_
    refine ax_iconst (pc := 68) (v := 0) C dX7_readCart_68 (by decide) ?_
    refine ax_bipush (pc := 69) (v := 11) C dX7_readCart_69 (by decide) ?_
    refine ax_callVi (pc := 71) C (w_X7_number F hN h400 hb hb0 (pm_c5_lt hz) 11) kX7_number mX7_160 dX7_readCart_71 (by decide) rfl rfl rfl rfl rfl (Nat.le_of_ble_eq_true rfl) rfl ⟨Nat.le_refl _, Nat.le_refl _⟩ ?_
    refine ax_istore_4 (pc := 74) C dX7_readCart_74 rfl ?_
    refine ax_aload_0 (pc := 76) C dX7_readCart_76 ?_
    refine ax_callVv (pc := 77) C (w_X7_mustEnd F hN h400 hb hb0 (pm_c6_lt hz)) kX7_mustEnd mX7_164 dX7_readCart_77 (by decide) rfl rfl rfl rfl rfl (Nat.le_of_ble_eq_true rfl) rfl ⟨Nat.le_refl _, Nat.le_refl _⟩ ?_
    refine ax_aload_0 (pc := 80) C dX7_readCart_80 ?_
    refine ax_getI (pc := 81) C fX7_123 dX7_readCart_81 rfl rfl ?_
    refine ax_val C mr_18 ?_
    refine ax_if_ne (pc := 84) (tgt := 161) C dX7_readCart_84 (by decide) (fun h84 => ?_) (fun h84 => ?_)
    · have h84 : ¬ (pm_c7 b N c z).2 = 0 := fun q => h84 (by show nI (pm_c7 b N c z).2 = 0; rw [q]; rfl)
      exact ax_vr (pc := 161) C rfl dX7_readCart_161 (by rw [pm_cf, if_neg h84]; rfl)
    · have h84 : (pm_c7 b N c z).2 = 0 := (nI_eq (b := 0) (Nat.lt_trans (pm_c7_lt hz) (by decide)) (by decide)).mp h84
      have hc6 : c < 6 := pm_c7_6 h84 h6
      refine ax_bipush (pc := 87) (v := 8) C dX7_readCart_87 (by decide) ?_
      refine ax_bipush (pc := 89) (v := 6) C dX7_readCart_89 (by decide) ?_
      refine ax_aload_0 (pc := 91) C dX7_readCart_91 ?_
      refine ax_getR (pc := 92) C fX7_22 dX7_readCart_92 rfl rfl ?_
      refine ax_iconst (pc := 95) (v := 0) C dX7_readCart_95 (by decide) ?_
      refine ax_iae (pc := 96) (c := 0) C dX7_readCart_96 rfl rfl (by decide) (by decide) ?_
      refine ax_val C (show _ = nI c by rw [mr_ne (by decide)]; exact hc) ?_
      refine ax_imul (pc := 97) C dX7_readCart_97 ?_
      refine ax_iadd (pc := 98) C dX7_readCart_98 ?_
      refine ax_val C ix86 ?_
      refine ax_istore_5 (pc := 99) C dX7_readCart_99 rfl ?_
      refine ax_aload_0 (pc := 101) C dX7_readCart_101 ?_
      refine ax_getR (pc := 102) C fX7_22 dX7_readCart_102 rfl rfl ?_
      refine ax_iload_5 (pc := 105) C dX7_readCart_105 ?_
      refine ax_iload_1 (pc := 107) C dX7_readCart_107 ?_
      refine ax_isn (pc := 108) C dX7_readCart_108 rfl (by omega) (by omega) ?_
      refine ax_aload_0 (pc := 109) C dX7_readCart_109 ?_
      refine ax_getR (pc := 110) C fX7_22 dX7_readCart_110 rfl rfl ?_
      refine ax_iload_5 (pc := 113) C dX7_readCart_113 ?_
      refine ax_iconst (pc := 115) (v := 1) C dX7_readCart_115 (by decide) ?_
      refine ax_iadd (pc := 116) C dX7_readCart_116 ?_
      refine ax_val C (nI_1 _) ?_
      refine ax_iload_2 (pc := 117) C dX7_readCart_117 ?_
      refine ax_isn (pc := 118) C dX7_readCart_118 rfl (by omega) (by omega) ?_
      refine ax_aload_0 (pc := 119) C dX7_readCart_119 ?_
      refine ax_getR (pc := 120) C fX7_22 dX7_readCart_120 rfl rfl ?_
      refine ax_iload_5 (pc := 123) C dX7_readCart_123 ?_
      refine ax_iconst (pc := 125) (v := 2) C dX7_readCart_125 (by decide) ?_
      refine ax_iadd (pc := 126) C dX7_readCart_126 ?_
      refine ax_val C (show nI (8 + 6 * c) + 2 = nI (8 + 6 * c + 2) from nI_add _ 2) ?_
      refine ax_iload_3 (pc := 127) C dX7_readCart_127 ?_
      refine ax_isn (pc := 128) C dX7_readCart_128 rfl (by omega) (by omega) ?_
      refine ax_aload_0 (pc := 129) C dX7_readCart_129 ?_
      refine ax_getR (pc := 130) C fX7_22 dX7_readCart_130 rfl rfl ?_
      refine ax_iload_5 (pc := 133) C dX7_readCart_133 ?_
      refine ax_iconst (pc := 135) (v := 3) C dX7_readCart_135 (by decide) ?_
      refine ax_iadd (pc := 136) C dX7_readCart_136 ?_
      refine ax_val C (show nI (8 + 6 * c) + 3 = nI (8 + 6 * c + 3) from nI_add _ 3) ?_
      refine ax_iload_4 (pc := 137) C dX7_readCart_137 ?_
      refine ax_isn (pc := 139) C dX7_readCart_139 rfl (by omega) (by omega) ?_
      refine ax_aload_0 (pc := 140) C dX7_readCart_140 ?_
      refine ax_getR (pc := 141) C fX7_22 dX7_readCart_141 rfl rfl ?_
      refine ax_iload_5 (pc := 144) C dX7_readCart_144 ?_
      refine ax_iconst (pc := 146) (v := 4) C dX7_readCart_146 (by decide) ?_
      refine ax_iadd (pc := 147) C dX7_readCart_147 ?_
      refine ax_val C (show nI (8 + 6 * c) + 4 = nI (8 + 6 * c + 4) from nI_add _ 4) ?_
      refine ax_ldc (pc := 148) C dX7_readCart_148 qX7_101 ?_
      refine ax_isn (pc := 150) C dX7_readCart_150 rfl (by omega) (by omega) ?_
      refine ax_aload_0 (pc := 151) C dX7_readCart_151 ?_
      refine ax_getR (pc := 152) C fX7_22 dX7_readCart_152 rfl rfl ?_
      refine ax_iconst (pc := 155) (v := 0) C dX7_readCart_155 (by decide) ?_
      refine ax_dup2 (pc := 156) C dX7_readCart_156 rfl rfl ?_
      refine ax_iae (pc := 157) (c := 0) C dX7_readCart_157 rfl rfl (by decide) (by decide) ?_
      refine ax_val C (show _ = nI c by simp (disch := omega) only [up_o, mr_ne]; exact hc) ?_
      refine ax_iconst (pc := 158) (v := 1) C dX7_readCart_158 (by decide) ?_
      refine ax_iadd (pc := 159) C dX7_readCart_159 ?_
      refine ax_val C (nI_1 c) ?_
      refine ax_ise (pc := 160) (c := 0) C dX7_readCart_160 rfl rfl (by decide) (by decide) ?_
      exact ax_vr (pc := 161) C rfl dX7_readCart_161 (by rw [pm_cf, if_pos h84]; simp only [mr_up (show (82 : Nat) ≠ 77 by decide)]; rfl)
  have cont1 : ax_S x Y ad 0 0 (ax_Q x Y ad none 96 (ax_g Y ad (mr (pm_cf σ b N c z) b N (pm_c7 b N c z))) 0 0) (mr σ b N (pm_c1 c z)) 16 [some (.ref (ad 77)), none, none, none, none, none] [] := by
    refine ax_aload_0 (pc := 16) C dX7_readCart_16 ?_
    refine ax_iconst (pc := 17) (v := 1) C dX7_readCart_17 (by decide) ?_
    refine ax_val C (show (1 : Int32) = ax_b (true = true) from rfl) ?_
    refine ax_callVv (pc := 18) C (w_X7_must F hN h400 hb hb0 (pm_c1_lt hz) true) kX7_must mX7_140 dX7_readCart_18 (by decide) rfl rfl rfl rfl rfl (Nat.le_of_ble_eq_true rfl) rfl ⟨Nat.le_refl _, Nat.le_refl _⟩ ?_
    refine ax_aload_0 (pc := 21) C dX7_readCart_21 ?_
    refine ax_callVl (pc := 22) C (w_X7_name F mr_16 mr_17 (tkE_le (EE_le _)).1 (Nat.le_trans (EE_le _) h400)) kX7_name mX7_154 dX7_readCart_22 (by decide) rfl rfl rfl rfl rfl (Nat.le_of_ble_eq_true rfl) rfl ⟨Nat.le_refl _, Nat.le_refl _⟩ ?_
    refine ax_lval C (mr_n (pm_c2_lt hz) hb) ?_
    refine ax_callSi (pc := 25) C (w_X7_kindBy F) kX7_kindBy mX7_167 dX7_readCart_25 (by decide) rfl rfl (Nat.le_of_ble_eq_true rfl) rfl ⟨Nat.le_refl _, Nat.le_refl _⟩ ?_
    refine ax_val C (show _ = (pm_kd b N c z) from rfl) ?_
    refine ax_istore_1 (pc := 28) C dX7_readCart_28 rfl ?_
    refine ax_aload_0 (pc := 29) C dX7_readCart_29 ?_
    refine ax_getI (pc := 30) C fX7_123 dX7_readCart_30 rfl rfl ?_
    refine ax_val C mr_18 ?_
    refine ax_if_ne (pc := 33) (tgt := 51) C dX7_readCart_33 (by decide) (fun h33 => ?_) (fun h33 => ?_)
    · exact ax_Seq (congrArg (mr σ b N) (show (pm_c2 c z) = (pm_c3 b N c z) by rw [pm_c3, pm_must_n (fun q => h33 (by show nI (pm_c2 c z).2 = 0; rw [q]; rfl))])) cont2
    · refine ax_aload_0 (pc := 36) C dX7_readCart_36 ?_
      refine ax_iload_1 (pc := 37) C dX7_readCart_37 ?_
      refine ax_ldc (pc := 38) C dX7_readCart_38 qX7_101 ?_
      refine ax_icmp_eq (pc := 40) (tgt := 47) C dX7_readCart_40 (by decide) (fun h40 => ?_) (fun h40 => ?_)
      · refine ax_iconst (pc := 47) (v := 0) C dX7_readCart_47 (by decide) ?_
        refine ax_val C (show (0 : Int32) = ax_b ((decide (¬ (pm_kd b N c z) = -1000000)) = true) from (ax_b0 (fun q => absurd h40 (of_decide_eq_true q))).symm) ?_
        refine ax_callVv (pc := 48) C (w_X7_must F hN h400 hb hb0 (pm_c2_lt hz) (decide (¬ (pm_kd b N c z) = -1000000))) kX7_must mX7_140 dX7_readCart_48 (by decide) rfl rfl rfl rfl rfl (Nat.le_of_ble_eq_true rfl) rfl ⟨Nat.le_refl _, Nat.le_refl _⟩ ?_
        exact cont2
      · refine ax_iconst (pc := 43) (v := 1) C dX7_readCart_43 (by decide) ?_
        refine ax_val C (show (1 : Int32) = ax_b ((decide (¬ (pm_kd b N c z) = -1000000)) = true) from (ax_b1 (decide_eq_true h40)).symm) ?_
        refine ax_goto (pc := 44) (tgt := 48) C dX7_readCart_44 (by decide) ?_
        refine ax_callVv (pc := 48) C (w_X7_must F hN h400 hb hb0 (pm_c2_lt hz) (decide (¬ (pm_kd b N c z) = -1000000))) kX7_must mX7_140 dX7_readCart_48 (by decide) rfl rfl rfl rfl rfl (Nat.le_of_ble_eq_true rfl) rfl ⟨Nat.le_refl _, Nat.le_refl _⟩ ?_
        exact cont2
  refine ax_aload_0 (pc := 0) C dX7_readCart_0 ?_
  refine ax_getR (pc := 1) C fX7_22 dX7_readCart_1 rfl rfl ?_
  refine ax_iconst (pc := 4) (v := 0) C dX7_readCart_4 (by decide) ?_
  refine ax_iae (pc := 5) (c := 0) C dX7_readCart_5 rfl rfl (by decide) (by decide) ?_
  refine ax_val C (show _ = nI c by rw [mr_ne (by decide)]; exact hc) ?_
  refine ax_bipush (pc := 6) (v := 6) C dX7_readCart_6 (by decide) ?_
  refine ax_icmp_ne (pc := 8) (tgt := 16) C dX7_readCart_8 (by decide) (fun h8 => ?_) (fun h8 => ?_)
  · exact ax_Seq (congrArg (mr σ b N) (show z = (pm_c1 c z) by rw [pm_c1, if_neg (fun q => h8 (by rw [q]; rfl))])) cont1
  · refine ax_aload_0 (pc := 11) C dX7_readCart_11 ?_
    refine ax_iconst (pc := 12) (v := 3) C dX7_readCart_12 (by decide) ?_
    refine ax_callVv (pc := 13) C (w_X7_bad F) kX7_bad mX7_132 dX7_readCart_13 (by decide) rfl rfl rfl rfl rfl (Nat.le_of_ble_eq_true rfl) rfl ⟨Nat.le_refl _, Nat.le_refl _⟩ ?_
    refine ax_Seq (mr_bad (k := 3) rfl (by decide) hz) ?_
    exact ax_Seq (congrArg (mr σ b N) (show pm_bad 3 z = (pm_c1 c z) by rw [pm_c1, if_pos ((nI_eq (b := 6) (by omega) (by decide)).mp h8)])) cont1
