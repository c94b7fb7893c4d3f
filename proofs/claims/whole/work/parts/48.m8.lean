set_option maxRecDepth 20000 in
set_option maxHeartbeats 4000000 in
theorem w_X7_copy {Y : ax_Y} {ad : Nat → Nat} (F : ax_F Y) {l : Launch} {σ : ax_Z} (hlen : ∀ c, c < 8 → ∃ len, len ≤ 40 ∧ σ 79 c = nI len) {a i b j n : Int32} : ax_m Y ad l iX7_copy 2 σ [.ref (ad 77), .int a, .int i, .int b, .int j, .int n] (some (.int (if (0 ≤ a ∧ a ≤ 7) ∧ (0 ≤ b ∧ b ≤ 7) then (if 0 ≤ σ 78 a.toNatClampNeg ∧ 0 ≤ σ 78 b.toNatClampNeg then (if σ 78 a.toNatClampNeg = σ 78 b.toNatClampNeg then (if (0 ≤ i ∧ 0 ≤ j ∧ 0 ≤ n ∧ i.toInt + n.toInt ≤ (σ 79 a.toNatClampNeg).toInt ∧ j.toInt + n.toInt ≤ (σ 79 b.toNatClampNeg).toInt) then n else -1000010 - 2) else -1000010 - 5) else -1000010 - 1) else -1000001))) (if (0 ≤ a ∧ a ≤ 7) ∧ (0 ≤ b ∧ b ≤ 7) then (if 0 ≤ σ 78 a.toNatClampNeg ∧ 0 ≤ σ 78 b.toNatClampNeg then (if σ 78 a.toNatClampNeg = σ 78 b.toNatClampNeg then (if (0 ≤ i ∧ 0 ≤ j ∧ 0 ≤ n ∧ i.toInt + n.toInt ≤ (σ 79 a.toNatClampNeg).toInt ∧ j.toInt + n.toInt ≤ (σ 79 b.toNatClampNeg).toInt) then cpu (ax_up (ax_up σ 77 0 0) 77 1 0) (40 * a.toNatClampNeg + i.toNatClampNeg) (40 * b.toNatClampNeg + j.toNatClampNeg) n.toNatClampNeg else ax_up (ax_up (ax_up σ 77 0 0) 77 1 0) 77 1 2) else ax_up (ax_up (ax_up σ 77 0 0) 77 1 0) 77 1 5) else ax_up (ax_up (ax_up σ 77 0 0) 77 1 0) 77 1 1) else (ax_up σ 77 0 0)) := by
  refine ax_m.of F kX7_copy.1 [some (.ref (ad 77)), some (.int (a)), some (.int (i)), some (.int (b)), some (.int (j)), some (.int (n)), none, none, none] rfl (Nat.le_of_ble_eq_true rfl) (fun x C => ?_)
  refine ax_aload_0 (pc := 0) C dX7_copy_0 ?_
  refine ax_iconst (pc := 1) (v := 0) C dX7_copy_1 (by decide) ?_
  refine ax_putI (pc := 2) C fX7_65 dX7_copy_2 rfl rfl rfl rfl ?_
  refine ax_iload_1 (pc := 5) C dX7_copy_5 ?_
  refine ax_callSi (pc := 6) C (w_X7_isRow F) kX7_isRow mX7_79 dX7_copy_6 (by decide) rfl rfl (Nat.le_of_ble_eq_true rfl) rfl ⟨Nat.le_refl _, Nat.le_refl _⟩ ?_
  refine ax_if_eq (pc := 9) (tgt := 19) C dX7_copy_9 (by decide) (fun h9 => ?_) (fun h9 => ?_)
  · have h9 := ax_beq h9
    refine ax_ldc (pc := 19) C dX7_copy_19 qX7_85 ?_
    exact ax_ir (pc := 21) C rfl dX7_copy_21 (by rw [if_neg (fun z => h9 z.1)]) (by rw [if_neg (fun z => h9 z.1)])
  · have h9 := ax_bne h9
    refine ax_iload_3 (pc := 12) C dX7_copy_12 ?_
    refine ax_callSi (pc := 13) C (w_X7_isRow F) kX7_isRow mX7_79 dX7_copy_13 (by decide) rfl rfl (Nat.le_of_ble_eq_true rfl) rfl ⟨Nat.le_refl _, Nat.le_refl _⟩ ?_
    refine ax_if_ne (pc := 16) (tgt := 22) C dX7_copy_16 (by decide) (fun h16 => ?_) (fun h16 => ?_)
    · have h16 := ax_bne h16
      obtain ⟨A, hA, rfl⟩ := ax_ix (m := 7) (by decide) h9
      have eA : (nI A).toNatClampNeg = A := nI_clamp (by omega)
      obtain ⟨B, hB, rfl⟩ := ax_ix (m := 7) (by decide) h16
      have eB : (nI B).toNatClampNeg = B := nI_clamp (by omega)
      obtain ⟨la, hla1, hla2⟩ := hlen A (by omega)
      obtain ⟨lb, hlb1, hlb2⟩ := hlen B (by omega)
      have hq := And.intro h9 h16
      simp only [if_pos hq, eA, eB]
      refine ax_aload_0 (pc := 22) C dX7_copy_22 ?_
      refine ax_iconst (pc := 23) (v := 0) C dX7_copy_23 (by decide) ?_
      refine ax_putI (pc := 24) C fX7_69 dX7_copy_24 rfl rfl rfl rfl ?_
      refine ax_aload_0 (pc := 27) C dX7_copy_27 ?_
      refine ax_getR (pc := 28) C fX7_7 dX7_copy_28 rfl rfl ?_
      refine ax_iload_1 (pc := 31) C dX7_copy_31 ?_
      refine ax_ian (pc := 32) C dX7_copy_32 rfl (by omega) (by omega) ?_
      refine ax_val C (show _ = σ 78 A by rw [up_ne (by decide), up_ne (by decide)]) ?_
      refine ax_if_lt (pc := 33) (tgt := 45) C dX7_copy_33 (by decide) (fun h33 => ?_) (fun h33 => ?_)
      · refine ax_aload_0 (pc := 45) C dX7_copy_45 ?_
        refine ax_iconst (pc := 46) (v := 1) C dX7_copy_46 (by decide) ?_
        refine ax_callVi (pc := 47) C (w_X7_finding F) kX7_finding mX7_86 dX7_copy_47 (by decide) rfl rfl rfl rfl rfl (Nat.le_of_ble_eq_true rfl) rfl ⟨Nat.le_refl _, Nat.le_refl _⟩ ?_
        exact ax_ir (pc := 50) C rfl dX7_copy_50 (by rw [if_neg (fun z => absurd z.1 (Int32.not_le.mpr h33))]) (by rw [if_neg (fun z => absurd z.1 (Int32.not_le.mpr h33))])
      · refine ax_aload_0 (pc := 36) C dX7_copy_36 ?_
        refine ax_getR (pc := 37) C fX7_7 dX7_copy_37 rfl rfl ?_
        refine ax_iload_3 (pc := 40) C dX7_copy_40 ?_
        refine ax_ian (pc := 41) C dX7_copy_41 rfl (by omega) (by omega) ?_
        refine ax_val C (show _ = σ 78 B by rw [up_ne (by decide), up_ne (by decide)]) ?_
        refine ax_if_ge (pc := 42) (tgt := 51) C dX7_copy_42 (by decide) (fun h42 => ?_) (fun h42 => ?_)
        · refine ax_aload_0 (pc := 51) C dX7_copy_51 ?_
          refine ax_getR (pc := 52) C fX7_7 dX7_copy_52 rfl rfl ?_
          refine ax_iload_1 (pc := 55) C dX7_copy_55 ?_
          refine ax_ian (pc := 56) C dX7_copy_56 rfl (by omega) (by omega) ?_
          refine ax_val C (show _ = σ 78 A by rw [up_ne (by decide), up_ne (by decide)]) ?_
          refine ax_aload_0 (pc := 57) C dX7_copy_57 ?_
          refine ax_getR (pc := 58) C fX7_7 dX7_copy_58 rfl rfl ?_
          refine ax_iload_3 (pc := 61) C dX7_copy_61 ?_
          refine ax_ian (pc := 62) C dX7_copy_62 rfl (by omega) (by omega) ?_
          refine ax_val C (show _ = σ 78 B by rw [up_ne (by decide), up_ne (by decide)]) ?_
          refine ax_icmp_eq (pc := 63) (tgt := 72) C dX7_copy_63 (by decide) (fun h63 => ?_) (fun h63 => ?_)
          · refine ax_iload_2 (pc := 72) C dX7_copy_72 ?_
            refine ax_if_lt (pc := 73) (tgt := 121) C dX7_copy_73 (by decide) (fun h73 => ?_) (fun h73 => ?_)
            · refine ax_aload_0 (pc := 121) C dX7_copy_121 ?_
              refine ax_iconst (pc := 122) (v := 2) C dX7_copy_122 (by decide) ?_
              refine ax_callVi (pc := 123) C (w_X7_finding F) kX7_finding mX7_86 dX7_copy_123 (by decide) rfl rfl rfl rfl rfl (Nat.le_of_ble_eq_true rfl) rfl ⟨Nat.le_refl _, Nat.le_refl _⟩ ?_
              exact ax_ir (pc := 126) C rfl dX7_copy_126 (by rw [if_pos (And.intro (Int32.not_lt.mp h33) h42), if_pos h63, if_neg (fun z => absurd z.1 (Int32.not_le.mpr h73))]) (by rw [if_pos (And.intro (Int32.not_lt.mp h33) h42), if_pos h63, if_neg (fun z => absurd z.1 (Int32.not_le.mpr h73))])
            · refine ax_iload_4 (pc := 76) C dX7_copy_76 ?_
              refine ax_if_lt (pc := 78) (tgt := 121) C dX7_copy_78 (by decide) (fun h78 => ?_) (fun h78 => ?_)
              · refine ax_aload_0 (pc := 121) C dX7_copy_121 ?_
                refine ax_iconst (pc := 122) (v := 2) C dX7_copy_122 (by decide) ?_
                refine ax_callVi (pc := 123) C (w_X7_finding F) kX7_finding mX7_86 dX7_copy_123 (by decide) rfl rfl rfl rfl rfl (Nat.le_of_ble_eq_true rfl) rfl ⟨Nat.le_refl _, Nat.le_refl _⟩ ?_
                exact ax_ir (pc := 126) C rfl dX7_copy_126 (by rw [if_pos (And.intro (Int32.not_lt.mp h33) h42), if_pos h63, if_neg (fun z => absurd z.2.1 (Int32.not_le.mpr h78))]) (by rw [if_pos (And.intro (Int32.not_lt.mp h33) h42), if_pos h63, if_neg (fun z => absurd z.2.1 (Int32.not_le.mpr h78))])
              · refine ax_iload_5 (pc := 81) C dX7_copy_81 ?_
                refine ax_if_lt (pc := 83) (tgt := 121) C dX7_copy_83 (by decide) (fun h83 => ?_) (fun h83 => ?_)
                · refine ax_aload_0 (pc := 121) C dX7_copy_121 ?_
                  refine ax_iconst (pc := 122) (v := 2) C dX7_copy_122 (by decide) ?_
                  refine ax_callVi (pc := 123) C (w_X7_finding F) kX7_finding mX7_86 dX7_copy_123 (by decide) rfl rfl rfl rfl rfl (Nat.le_of_ble_eq_true rfl) rfl ⟨Nat.le_refl _, Nat.le_refl _⟩ ?_
                  exact ax_ir (pc := 126) C rfl dX7_copy_126 (by rw [if_pos (And.intro (Int32.not_lt.mp h33) h42), if_pos h63, if_neg (fun z => absurd z.2.2.1 (Int32.not_le.mpr h83))]) (by rw [if_pos (And.intro (Int32.not_lt.mp h33) h42), if_pos h63, if_neg (fun z => absurd z.2.2.1 (Int32.not_le.mpr h83))])
                · refine ax_iload_2 (pc := 86) C dX7_copy_86 ?_
                  refine ax_i2l (pc := 87) C dX7_copy_87 ?_
                  refine ax_iload_5 (pc := 88) C dX7_copy_88 ?_
                  refine ax_i2l (pc := 90) C dX7_copy_90 ?_
                  refine ax_ladd (pc := 91) C dX7_copy_91 ?_
                  refine ax_aload_0 (pc := 92) C dX7_copy_92 ?_
                  refine ax_getR (pc := 93) C fX7_13 dX7_copy_93 rfl rfl ?_
                  refine ax_iload_1 (pc := 96) C dX7_copy_96 ?_
                  refine ax_ian (pc := 97) C dX7_copy_97 rfl (by omega) (by omega) ?_
                  refine ax_val C (show _ = σ 79 A by rw [up_ne (by decide), up_ne (by decide)]) ?_
                  refine ax_i2l (pc := 98) C dX7_copy_98 ?_
                  refine ax_lcmp (pc := 99) C dX7_copy_99 ?_
                  refine ax_if_gt (pc := 100) (tgt := 121) C dX7_copy_100 (by decide) (fun h100 => ?_) (fun h100 => ?_)
                  · refine ax_aload_0 (pc := 121) C dX7_copy_121 ?_
                    refine ax_iconst (pc := 122) (v := 2) C dX7_copy_122 (by decide) ?_
                    refine ax_callVi (pc := 123) C (w_X7_finding F) kX7_finding mX7_86 dX7_copy_123 (by decide) rfl rfl rfl rfl rfl (Nat.le_of_ble_eq_true rfl) rfl ⟨Nat.le_refl _, Nat.le_refl _⟩ ?_
                    exact ax_ir (pc := 126) C rfl dX7_copy_126 (by rw [if_pos (And.intro (Int32.not_lt.mp h33) h42), if_pos h63, if_neg (fun z => absurd ((lg_cmp_le _ _).mpr (lg_sum.mpr z.2.2.2.1)) (Int32.not_le.mpr h100))]) (by rw [if_pos (And.intro (Int32.not_lt.mp h33) h42), if_pos h63, if_neg (fun z => absurd ((lg_cmp_le _ _).mpr (lg_sum.mpr z.2.2.2.1)) (Int32.not_le.mpr h100))])
                  · refine ax_iload_4 (pc := 103) C dX7_copy_103 ?_
                    refine ax_i2l (pc := 105) C dX7_copy_105 ?_
                    refine ax_iload_5 (pc := 106) C dX7_copy_106 ?_
                    refine ax_i2l (pc := 108) C dX7_copy_108 ?_
                    refine ax_ladd (pc := 109) C dX7_copy_109 ?_
                    refine ax_aload_0 (pc := 110) C dX7_copy_110 ?_
                    refine ax_getR (pc := 111) C fX7_13 dX7_copy_111 rfl rfl ?_
                    refine ax_iload_3 (pc := 114) C dX7_copy_114 ?_
                    refine ax_ian (pc := 115) C dX7_copy_115 rfl (by omega) (by omega) ?_
                    refine ax_val C (show _ = σ 79 B by rw [up_ne (by decide), up_ne (by decide)]) ?_
                    refine ax_i2l (pc := 116) C dX7_copy_116 ?_
                    refine ax_lcmp (pc := 117) C dX7_copy_117 ?_
                    refine ax_if_le (pc := 118) (tgt := 127) C dX7_copy_118 (by decide) (fun h118 => ?_) (fun h118 => ?_)
                    · have h100' := lg_sum.mp ((lg_cmp_le _ _).mp (Int32.not_lt.mp h100))
                      have h118' := lg_sum.mp ((lg_cmp_le _ _).mp h118)
                      have h73' := Int32.not_lt.mp h73
                      have h78' := Int32.not_lt.mp h78
                      have h83' := Int32.not_lt.mp h83
                      have hP := And.intro h73' (And.intro h78' (And.intro h83' (And.intro h100' h118')))
                      obtain ⟨u, w, rfl, rfl, hu⟩ := mj_ix hla2 hla1 h73' h83' h100'
                      obtain ⟨v, w2, rfl, e2, hv⟩ := mj_ix hlb2 hlb1 h78' h83' h118'
                      have hw2 : w = w2 := (nI_eq (by omega) (by omega)).mp e2
                      subst hw2
                      have eu : (nI u).toNatClampNeg = u := nI_clamp (by omega)
                      have ev : (nI v).toNatClampNeg = v := nI_clamp (by omega)
                      have ew : (nI w).toNatClampNeg = w := nI_clamp (by omega)
                      have hL := And.intro (Int32.not_lt.mp h33) h42
                      simp only [if_pos hL, if_pos h63, if_pos hP, eu, ev, ew]
                      have fw : v ≤ u → ax_S x Y ad 0 0 (ax_Q x Y ad (some (.int (nI w))) 96 (ax_g Y ad (cpu (ax_up (ax_up σ 77 0 0) 77 1 0) (40 * A + u) (40 * B + v) w)) 0 0) (ax_up (ax_up σ 77 0 0) 77 1 0) 143 [some (.ref (ad 77)), some (.int (nI A)), some (.int (nI u)), some (.int (nI B)), some (.int (nI v)), some (.int (nI w)), some (.int (1)), some (.int (nI 0)), none] [] := by
                        intro huv
                        have loop : ∀ (q : Nat) (m : Nat) (z : Option Value), m ≤ w → w < m + q → ax_S x Y ad 0 0 (ax_Q x Y ad (some (.int (nI w))) 96 (ax_g Y ad (cpu (ax_up (ax_up σ 77 0 0) 77 1 0) (40 * A + u) (40 * B + v) w)) 0 0) (cpu (ax_up (ax_up σ 77 0 0) 77 1 0) (40 * A + u) (40 * B + v) m) 143 [some (.ref (ad 77)), some (.int (nI A)), some (.int (nI u)), some (.int (nI B)), some (.int (nI v)), some (.int (nI w)), some (.int (1)), some (.int (nI m)), z] [] := by
                          intro q
                          induction q with
                          | zero => intro m z h1 h2; exfalso; omega
                          | succ q ih =>
                            intro m z h1 h2
                            refine ax_iload_7 (pc := 143) C dX7_copy_143 ?_
                            refine ax_iload_5 (pc := 145) C dX7_copy_145 ?_
                            refine ax_icmp_ge (pc := 147) (tgt := 204) C dX7_copy_147 (by decide) (fun h147 => ?_) (fun h147 => ?_)
                            · have hm : ¬ m < w := fun z => nI_ge z (by omega) h147
                              refine ax_iload_5 (pc := 204) C dX7_copy_204 ?_
                              exact ax_ir (pc := 206) C rfl dX7_copy_206 rfl (by rw [show m = w by omega])
                            · have hm : m < w := Nat.lt_of_not_le (fun z => h147 (nI_le z (by omega)))
                              refine ax_iload_6 (pc := 150) C dX7_copy_150 ?_
                              refine ax_if_eq (pc := 152) (tgt := 160) C dX7_copy_152 (by decide) (fun z => False.elim (absurd z (by decide))) (fun _ => ?_)
                              refine ax_iload_7 (pc := 155) C dX7_copy_155 ?_
                              refine ax_goto (pc := 157) (tgt := 167) C dX7_copy_157 (by decide) ?_
                              refine ax_istore_8 (pc := 167) C dX7_copy_167 rfl ?_
                              refine ax_aload_0 (pc := 169) C dX7_copy_169 ?_
                              refine ax_getR (pc := 170) C fX7_16 dX7_copy_170 rfl rfl ?_
                              refine ax_bipush (pc := 173) (v := 40) C dX7_copy_173 (by decide) ?_
                              refine ax_iload_3 (pc := 175) C dX7_copy_175 ?_
                              refine ax_imul (pc := 176) C dX7_copy_176 ?_
                              refine ax_iload_4 (pc := 177) C dX7_copy_177 ?_
                              refine ax_iadd (pc := 179) C dX7_copy_179 ?_
                              refine ax_iload_8 (pc := 180) C dX7_copy_180 ?_
                              refine ax_iadd (pc := 182) C dX7_copy_182 ?_
                              refine ax_aload_0 (pc := 183) C dX7_copy_183 ?_
                              refine ax_getR (pc := 184) C fX7_16 dX7_copy_184 rfl rfl ?_
                              refine ax_bipush (pc := 187) (v := 40) C dX7_copy_187 (by decide) ?_
                              refine ax_iload_1 (pc := 189) C dX7_copy_189 ?_
                              refine ax_imul (pc := 190) C dX7_copy_190 ?_
                              refine ax_iload_2 (pc := 191) C dX7_copy_191 ?_
                              refine ax_iadd (pc := 192) C dX7_copy_192 ?_
                              refine ax_iload_8 (pc := 193) C dX7_copy_193 ?_
                              refine ax_iadd (pc := 195) C dX7_copy_195 ?_
                              refine ax_iae (pc := 196) (c := 40 * A + u + m) C dX7_copy_196 rfl ix40b (by omega) (by decide) ?_
                              refine ax_ise (pc := 197) (c := 40 * B + v + m) C dX7_copy_197 rfl ix40b (by omega) (by decide) ?_
                              refine ax_iinc_7 (pc := 198) C dX7_copy_198 (1) (by decide) rfl ?_
                              refine ax_goto (pc := 201) (tgt := 143) C dX7_copy_201 (by decide) ?_
                              refine ax_SLeq (cpu_s (by omega)) (by rw [nI_1]) (ih (m + 1) (some (.int (nI m))) (by omega) (by omega))
                        exact ax_Seq cpu_0.symm (loop (w + 1) 0 none (by omega) (by omega))
                      have bw : u < v → ax_S x Y ad 0 0 (ax_Q x Y ad (some (.int (nI w))) 96 (ax_g Y ad (cpu (ax_up (ax_up σ 77 0 0) 77 1 0) (40 * A + u) (40 * B + v) w)) 0 0) (ax_up (ax_up σ 77 0 0) 77 1 0) 143 [some (.ref (ad 77)), some (.int (nI A)), some (.int (nI u)), some (.int (nI B)), some (.int (nI v)), some (.int (nI w)), some (.int (0)), some (.int (nI 0)), none] [] := by
                        intro huv
                        have loop : ∀ (q : Nat) (m : Nat) (z : Option Value), m ≤ w → w < m + q → ax_S x Y ad 0 0 (ax_Q x Y ad (some (.int (nI w))) 96 (ax_g Y ad (cpu (ax_up (ax_up σ 77 0 0) 77 1 0) (40 * A + u) (40 * B + v) w)) 0 0) (cpd (ax_up (ax_up σ 77 0 0) 77 1 0) (40 * A + u) (40 * B + v) w m) 143 [some (.ref (ad 77)), some (.int (nI A)), some (.int (nI u)), some (.int (nI B)), some (.int (nI v)), some (.int (nI w)), some (.int (0)), some (.int (nI m)), z] [] := by
                          intro q
                          induction q with
                          | zero => intro m z h1 h2; exfalso; omega
                          | succ q ih =>
                            intro m z h1 h2
                            refine ax_iload_7 (pc := 143) C dX7_copy_143 ?_
                            refine ax_iload_5 (pc := 145) C dX7_copy_145 ?_
                            refine ax_icmp_ge (pc := 147) (tgt := 204) C dX7_copy_147 (by decide) (fun h147 => ?_) (fun h147 => ?_)
                            · have hm : ¬ m < w := fun z => nI_ge z (by omega) h147
                              refine ax_iload_5 (pc := 204) C dX7_copy_204 ?_
                              exact ax_ir (pc := 206) C rfl dX7_copy_206 rfl (by rw [show m = w by omega, cpd_n])
                            · have hm : m < w := Nat.lt_of_not_le (fun z => h147 (nI_le z (by omega)))
                              refine ax_iload_6 (pc := 150) C dX7_copy_150 ?_
                              refine ax_if_eq (pc := 152) (tgt := 160) C dX7_copy_152 (by decide) (fun _ => ?_) (fun z => False.elim (absurd z (by decide)))
                              refine ax_iload_5 (pc := 160) C dX7_copy_160 ?_
                              refine ax_iconst (pc := 162) (v := 1) C dX7_copy_162 (by decide) ?_
                              refine ax_isub (pc := 163) C dX7_copy_163 ?_
                              refine ax_iload_7 (pc := 164) C dX7_copy_164 ?_
                              refine ax_isub (pc := 166) C dX7_copy_166 ?_
                              refine ax_val C (show _ = nI (w - 1 - m) by rw [show (1 : Int32) = nI 1 from rfl, pk_sub (by omega), pk_sub (by omega)]) ?_
                              refine ax_istore_8 (pc := 167) C dX7_copy_167 rfl ?_
                              refine ax_aload_0 (pc := 169) C dX7_copy_169 ?_
                              refine ax_getR (pc := 170) C fX7_16 dX7_copy_170 rfl rfl ?_
                              refine ax_bipush (pc := 173) (v := 40) C dX7_copy_173 (by decide) ?_
                              refine ax_iload_3 (pc := 175) C dX7_copy_175 ?_
                              refine ax_imul (pc := 176) C dX7_copy_176 ?_
                              refine ax_iload_4 (pc := 177) C dX7_copy_177 ?_
                              refine ax_iadd (pc := 179) C dX7_copy_179 ?_
                              refine ax_iload_8 (pc := 180) C dX7_copy_180 ?_
                              refine ax_iadd (pc := 182) C dX7_copy_182 ?_
                              refine ax_aload_0 (pc := 183) C dX7_copy_183 ?_
                              refine ax_getR (pc := 184) C fX7_16 dX7_copy_184 rfl rfl ?_
                              refine ax_bipush (pc := 187) (v := 40) C dX7_copy_187 (by decide) ?_
                              refine ax_iload_1 (pc := 189) C dX7_copy_189 ?_
                              refine ax_imul (pc := 190) C dX7_copy_190 ?_
                              refine ax_iload_2 (pc := 191) C dX7_copy_191 ?_
                              refine ax_iadd (pc := 192) C dX7_copy_192 ?_
                              refine ax_iload_8 (pc := 193) C dX7_copy_193 ?_
                              refine ax_iadd (pc := 195) C dX7_copy_195 ?_
                              refine ax_iae (pc := 196) (c := 40 * A + u + (w - 1 - m)) C dX7_copy_196 rfl ix40b (by omega) (by decide) ?_
                              refine ax_ise (pc := 197) (c := 40 * B + v + (w - 1 - m)) C dX7_copy_197 rfl ix40b (by omega) (by decide) ?_
                              refine ax_iinc_7 (pc := 198) C dX7_copy_198 (1) (by decide) rfl ?_
                              refine ax_goto (pc := 201) (tgt := 143) C dX7_copy_201 (by decide) ?_
                              refine ax_SLeq (cpd_s hm (by omega)) (by rw [nI_1]) (ih (m + 1) (some (.int (nI (w - 1 - m)))) (by omega) (by omega))
                        exact ax_Seq cpd_0.symm (loop (w + 1) 0 none (by omega) (by omega))
                      refine ax_iload_2 (pc := 127) C dX7_copy_127 ?_
                      refine ax_iload_4 (pc := 128) C dX7_copy_128 ?_
                      refine ax_icmp_lt (pc := 130) (tgt := 137) C dX7_copy_130 (by decide) (fun h130 => ?_) (fun h130 => ?_)
                      · refine ax_iconst (pc := 137) (v := 0) C dX7_copy_137 (by decide) ?_
                        refine ax_istore_6 (pc := 138) C dX7_copy_138 rfl ?_
                        refine ax_iconst (pc := 140) (v := 0) C dX7_copy_140 (by decide) ?_
                        refine ax_istore_7 (pc := 141) C dX7_copy_141 rfl ?_
                        exact bw ((nI_ltI (by omega) (by omega)).mp h130)
                      · refine ax_iconst (pc := 133) (v := 1) C dX7_copy_133 (by decide) ?_
                        refine ax_goto (pc := 134) (tgt := 138) C dX7_copy_134 (by decide) ?_
                        refine ax_istore_6 (pc := 138) C dX7_copy_138 rfl ?_
                        refine ax_iconst (pc := 140) (v := 0) C dX7_copy_140 (by decide) ?_
                        refine ax_istore_7 (pc := 141) C dX7_copy_141 rfl ?_
                        exact fw (Nat.le_of_not_lt (fun z => h130 (nI_lt z (by omega))))
                    · refine ax_aload_0 (pc := 121) C dX7_copy_121 ?_
                      refine ax_iconst (pc := 122) (v := 2) C dX7_copy_122 (by decide) ?_
                      refine ax_callVi (pc := 123) C (w_X7_finding F) kX7_finding mX7_86 dX7_copy_123 (by decide) rfl rfl rfl rfl rfl (Nat.le_of_ble_eq_true rfl) rfl ⟨Nat.le_refl _, Nat.le_refl _⟩ ?_
                      exact ax_ir (pc := 126) C rfl dX7_copy_126 (by rw [if_pos (And.intro (Int32.not_lt.mp h33) h42), if_pos h63, if_neg (fun z => h118 ((lg_cmp_le _ _).mpr (lg_sum.mpr z.2.2.2.2)))]) (by rw [if_pos (And.intro (Int32.not_lt.mp h33) h42), if_pos h63, if_neg (fun z => h118 ((lg_cmp_le _ _).mpr (lg_sum.mpr z.2.2.2.2)))])
          · refine ax_aload_0 (pc := 66) C dX7_copy_66 ?_
            refine ax_iconst (pc := 67) (v := 5) C dX7_copy_67 (by decide) ?_
            refine ax_callVi (pc := 68) C (w_X7_finding F) kX7_finding mX7_86 dX7_copy_68 (by decide) rfl rfl rfl rfl rfl (Nat.le_of_ble_eq_true rfl) rfl ⟨Nat.le_refl _, Nat.le_refl _⟩ ?_
            exact ax_ir (pc := 71) C rfl dX7_copy_71 (by rw [if_pos (And.intro (Int32.not_lt.mp h33) h42), if_neg h63]) (by rw [if_pos (And.intro (Int32.not_lt.mp h33) h42), if_neg h63])
        · refine ax_aload_0 (pc := 45) C dX7_copy_45 ?_
          refine ax_iconst (pc := 46) (v := 1) C dX7_copy_46 (by decide) ?_
          refine ax_callVi (pc := 47) C (w_X7_finding F) kX7_finding mX7_86 dX7_copy_47 (by decide) rfl rfl rfl rfl rfl (Nat.le_of_ble_eq_true rfl) rfl ⟨Nat.le_refl _, Nat.le_refl _⟩ ?_
          exact ax_ir (pc := 50) C rfl dX7_copy_50 (by rw [if_neg (fun z => h42 z.2)]) (by rw [if_neg (fun z => h42 z.2)])
    · have h16 := ax_beq h16
      refine ax_ldc (pc := 19) C dX7_copy_19 qX7_85 ?_
      exact ax_ir (pc := 21) C rfl dX7_copy_21 (by rw [if_neg (fun z => h16 z.2)]) (by rw [if_neg (fun z => h16 z.2)])
