set_option maxRecDepth 20000 in
set_option maxHeartbeats 4000000 in
theorem w_X7_two {Y : ax_Y} {ad : Nat → Nat} (F : ax_F Y) {l : Launch} {σ : ax_Z} {n : Nat} (hn : σ 81 0 = nI n) (h6 : n ≤ 6) {a b hr k : Int32} : ax_m Y ad l iX7_two 2 σ [.ref (ad 77), .int a, .int b, .int hr, .int k] (some (.int (if ((0 ≤ a ∧ a ≤ nI n - 1) ∧ (0 ≤ b ∧ b ≤ nI n - 1) ∧ ¬ a = b ∧ (0 ≤ hr ∧ hr ≤ 11) ∧ (0 ≤ k ∧ k ≤ 1)) then (if k = 0 then (tw_f (hs_toll (fun t => (ax_up σ 77 0 0) 81 (2 + t)) 2) ((ax_up σ 77 0 0) 81 (8 + 6 * a.toNatClampNeg + 2)) ((ax_up σ 77 0 0) 81 (8 + 6 * b.toNatClampNeg + 2)) a b (11 - hr.toNatClampNeg)).2.2.1 else (tw_f (hs_toll (fun t => (ax_up σ 77 0 0) 81 (2 + t)) 2) ((ax_up σ 77 0 0) 81 (8 + 6 * a.toNatClampNeg + 2)) ((ax_up σ 77 0 0) 81 (8 + 6 * b.toNatClampNeg + 2)) a b (11 - hr.toNatClampNeg)).2.2.2) else -1000001))) (ax_up σ 77 0 0) := by
  refine ax_m.of F kX7_two.1 [some (.ref (ad 77)), some (.int (a)), some (.int (b)), some (.int (hr)), some (.int (k)), none, none, none, none, none, none, none, none, none, none] rfl (Nat.le_of_ble_eq_true rfl) (fun x C => ?_)
  refine ax_aload_0 (pc := 0) C dX7_two_0 ?_
  refine ax_iconst (pc := 1) (v := 0) C dX7_two_1 (by decide) ?_
  refine ax_putI (pc := 2) C fX7_65 dX7_two_2 rfl rfl rfl rfl ?_
  refine ax_aload_0 (pc := 5) C dX7_two_5 ?_
  refine ax_iload_1 (pc := 6) C dX7_two_6 ?_
  refine ax_callVi (pc := 7) C (w_X7_isCart F (n := n) (by rw [up_ne (by decide)]; exact hn)) kX7_isCart mX7_230 dX7_two_7 (by decide) rfl rfl rfl rfl rfl (Nat.le_of_ble_eq_true rfl) rfl ⟨Nat.le_refl _, Nat.le_refl _⟩ ?_
  refine ax_if_eq (pc := 10) (tgt := 44) C dX7_two_10 (by decide) (fun h10 => ?_) (fun h10 => ?_)
  · have h10 := ax_beq h10
    refine ax_ldc (pc := 44) C dX7_two_44 qX7_85 ?_
    exact ax_ir (pc := 46) C rfl dX7_two_46 (by rw [if_neg (fun z => h10 z.1)]) rfl
  · have h10 := ax_bne h10
    refine ax_aload_0 (pc := 13) C dX7_two_13 ?_
    refine ax_iload_2 (pc := 14) C dX7_two_14 ?_
    refine ax_callVi (pc := 15) C (w_X7_isCart F (n := n) (by rw [up_ne (by decide)]; exact hn)) kX7_isCart mX7_230 dX7_two_15 (by decide) rfl rfl rfl rfl rfl (Nat.le_of_ble_eq_true rfl) rfl ⟨Nat.le_refl _, Nat.le_refl _⟩ ?_
    refine ax_if_eq (pc := 18) (tgt := 44) C dX7_two_18 (by decide) (fun h18 => ?_) (fun h18 => ?_)
    · have h18 := ax_beq h18
      refine ax_ldc (pc := 44) C dX7_two_44 qX7_85 ?_
      exact ax_ir (pc := 46) C rfl dX7_two_46 (by rw [if_neg (fun z => h18 z.2.1)]) rfl
    · have h18 := ax_bne h18
      refine ax_iload_1 (pc := 21) C dX7_two_21 ?_
      refine ax_iload_2 (pc := 22) C dX7_two_22 ?_
      refine ax_icmp_eq (pc := 23) (tgt := 44) C dX7_two_23 (by decide) (fun h23 => ?_) (fun h23 => ?_)
      · refine ax_ldc (pc := 44) C dX7_two_44 qX7_85 ?_
        exact ax_ir (pc := 46) C rfl dX7_two_46 (by rw [if_neg (fun z => z.2.2.1 h23)]) rfl
      · refine ax_iload_3 (pc := 26) C dX7_two_26 ?_
        refine ax_callSi (pc := 27) C (w_X7_isHour F) kX7_isHour mX7_251 dX7_two_27 (by decide) rfl rfl (Nat.le_of_ble_eq_true rfl) rfl ⟨Nat.le_refl _, Nat.le_refl _⟩ ?_
        refine ax_if_eq (pc := 30) (tgt := 44) C dX7_two_30 (by decide) (fun h30 => ?_) (fun h30 => ?_)
        · have h30 := ax_beq h30
          refine ax_ldc (pc := 44) C dX7_two_44 qX7_85 ?_
          exact ax_ir (pc := 46) C rfl dX7_two_46 (by rw [if_neg (fun z => h30 z.2.2.2.1)]) rfl
        · have h30 := ax_bne h30
          refine ax_iload_4 (pc := 33) C dX7_two_33 ?_
          refine ax_i2l (pc := 35) C dX7_two_35 ?_
          refine ax_lconst (pc := 36) (v := 0) C dX7_two_36 (by decide) ?_
          refine ax_lconst (pc := 37) (v := 1) C dX7_two_37 (by decide) ?_
          refine ax_callSi (pc := 38) C (w_X7_in F (lo := (0)) (hi := (1)) rfl rfl) kX7_in mX7_75 dX7_two_38 (by decide) rfl rfl (Nat.le_of_ble_eq_true rfl) rfl ⟨Nat.le_refl _, Nat.le_refl _⟩ ?_
          refine ax_if_ne (pc := 41) (tgt := 47) C dX7_two_41 (by decide) (fun h41 => ?_) (fun h41 => ?_)
          · have h41 := ax_bne h41
            obtain ⟨u, hu, rfl⟩ := ax_ixN (by omega) h10
            have eu : (nI u).toNatClampNeg = u := nI_clamp (by omega)
            obtain ⟨v, hv, rfl⟩ := ax_ixN (by omega) h18
            have ev : (nI v).toNatClampNeg = v := nI_clamp (by omega)
            obtain ⟨t, ht, rfl⟩ := ax_ix (m := 11) (by decide) h30
            have et : (nI t).toNatClampNeg = t := nI_clamp (by omega)
            have hq := And.intro h10 (And.intro h18 (And.intro h23 (And.intro h30 h41)))
            simp only [if_pos hq, eu, ev, et]
            refine ax_aload_0 (pc := 47) C dX7_two_47 ?_
            refine ax_iconst (pc := 48) (v := 2) C dX7_two_48 (by decide) ?_
            refine ax_callVi (pc := 49) C (w_X7_tollFor F (k := 2) (by decide) (by decide)) kX7_tollFor mX7_217 dX7_two_49 (by decide) rfl rfl rfl rfl rfl (Nat.le_of_ble_eq_true rfl) rfl ⟨Nat.le_refl _, Nat.le_refl _⟩ ?_
            refine ax_istore_5 (pc := 52) C dX7_two_52 rfl ?_
            refine ax_iload_5 (pc := 54) C dX7_two_54 ?_
            refine ax_istore_6 (pc := 56) C dX7_two_56 rfl ?_
            refine ax_iconst (pc := 58) (v := 0) C dX7_two_58 (by decide) ?_
            refine ax_istore_7 (pc := 59) C dX7_two_59 rfl ?_
            refine ax_bipush (pc := 61) (v := 11) C dX7_two_61 (by decide) ?_
            refine ax_istore_8 (pc := 63) C dX7_two_63 rfl ?_
            refine ax_iload_1 (pc := 65) C dX7_two_65 ?_
            refine ax_istore_9 (pc := 66) C dX7_two_66 rfl ?_
            refine ax_bipush (pc := 68) (v := 10) C dX7_two_68 (by decide) ?_
            refine ax_istore_10 (pc := 70) C dX7_two_70 rfl ?_
            have loop : ∀ (q : Nat) (m : Nat) (z1 z2 z3 z4 : Option Value), m + t ≤ 11 → 11 < m + t + q → ax_S x Y ad 0 0 (ax_Q x Y ad (some (.int (if k = 0 then (tw_f (hs_toll (fun t => (ax_up σ 77 0 0) 81 (2 + t)) 2) ((ax_up σ 77 0 0) 81 (8 + 6 * u + 2)) ((ax_up σ 77 0 0) 81 (8 + 6 * v + 2)) (nI u) (nI v) (11 - t)).2.2.1 else (tw_f (hs_toll (fun t => (ax_up σ 77 0 0) 81 (2 + t)) 2) ((ax_up σ 77 0 0) 81 (8 + 6 * u + 2)) ((ax_up σ 77 0 0) 81 (8 + 6 * v + 2)) (nI u) (nI v) (11 - t)).2.2.2))) 96 (ax_g Y ad (ax_up σ 77 0 0)) 0 0) (ax_up σ 77 0 0) 72 [some (.ref (ad 77)), some (.int (nI u)), some (.int (nI v)), some (.int (nI t)), some (.int (k)), some (.int ((hs_toll (fun t => (ax_up σ 77 0 0) 81 (2 + t)) 2))), some (.int ((tw_f (hs_toll (fun t => (ax_up σ 77 0 0) 81 (2 + t)) 2) ((ax_up σ 77 0 0) 81 (8 + 6 * u + 2)) ((ax_up σ 77 0 0) 81 (8 + 6 * v + 2)) (nI u) (nI v) m).1)), some (.int ((tw_f (hs_toll (fun t => (ax_up σ 77 0 0) 81 (2 + t)) 2) ((ax_up σ 77 0 0) 81 (8 + 6 * u + 2)) ((ax_up σ 77 0 0) 81 (8 + 6 * v + 2)) (nI u) (nI v) m).2.1)), some (.int ((tw_f (hs_toll (fun t => (ax_up σ 77 0 0) 81 (2 + t)) 2) ((ax_up σ 77 0 0) 81 (8 + 6 * u + 2)) ((ax_up σ 77 0 0) 81 (8 + 6 * v + 2)) (nI u) (nI v) m).2.2.1)), some (.int ((tw_f (hs_toll (fun t => (ax_up σ 77 0 0) 81 (2 + t)) 2) ((ax_up σ 77 0 0) 81 (8 + 6 * u + 2)) ((ax_up σ 77 0 0) 81 (8 + 6 * v + 2)) (nI u) (nI v) m).2.2.2)), some (.int (10 - nI m)), z1, z2, z3, z4] [] := by
              intro q
              induction q with
              | zero => intro m z1 z2 z3 z4 h1 h2; exfalso; omega
              | succ q ih =>
                intro m z1 z2 z3 z4 h1 h2
                refine ax_iload_10 (pc := 72) C dX7_two_72 ?_
                refine ax_iload_3 (pc := 74) C dX7_two_74 ?_
                refine ax_icmp_lt (pc := 75) (tgt := 230) C dX7_two_75 (by decide) (fun h75 => ?_) (fun h75 => ?_)
                · have hm : ¬ m + t ≤ 10 := fun z => absurd ((tw_lt (by omega) (by omega)).mp h75) (by omega)
                  refine ax_iload_4 (pc := 230) C dX7_two_230 ?_
                  refine ax_if_ne (pc := 232) (tgt := 240) C dX7_two_232 (by decide) (fun h232 => ?_) (fun h232 => ?_)
                  · refine ax_iload_9 (pc := 240) C dX7_two_240 ?_
                    exact ax_ir (pc := 242) C rfl dX7_two_242 (by rw [show 11 - t = m by omega, if_neg h232]) rfl
                  · refine ax_iload_8 (pc := 235) C dX7_two_235 ?_
                    refine ax_goto (pc := 237) (tgt := 242) C dX7_two_237 (by decide) ?_
                    exact ax_ir (pc := 242) C rfl dX7_two_242 (by rw [show 11 - t = m by omega, if_pos h232]) rfl
                · have hm : m + t ≤ 10 := Nat.le_of_not_lt (fun z => h75 ((tw_lt (by omega) (by omega)).mpr z))
                  refine ax_aload_0 (pc := 78) C dX7_two_78 ?_
                  refine ax_iload_1 (pc := 79) C dX7_two_79 ?_
                  refine ax_iconst (pc := 80) (v := 2) C dX7_two_80 (by decide) ?_
                  refine ax_callVi (pc := 81) C (w_X7_of F (k := 2) (by omega) (by decide)) kX7_of mX7_201 dX7_two_81 (by decide) rfl rfl rfl rfl rfl (Nat.le_of_ble_eq_true rfl) rfl ⟨Nat.le_refl _, Nat.le_refl _⟩ ?_
                  refine ax_iload_6 (pc := 84) C dX7_two_84 ?_
                  refine ax_iadd (pc := 86) C dX7_two_86 ?_
                  refine ax_istore_11 (pc := 87) C dX7_two_87 rfl ?_
                  refine ax_aload_0 (pc := 89) C dX7_two_89 ?_
                  refine ax_iload_2 (pc := 90) C dX7_two_90 ?_
                  refine ax_iconst (pc := 91) (v := 2) C dX7_two_91 (by decide) ?_
                  refine ax_callVi (pc := 92) C (w_X7_of F (k := 2) (by omega) (by decide)) kX7_of mX7_201 dX7_two_92 (by decide) rfl rfl rfl rfl rfl (Nat.le_of_ble_eq_true rfl) rfl ⟨Nat.le_refl _, Nat.le_refl _⟩ ?_
                  refine ax_iload_7 (pc := 95) C dX7_two_95 ?_
                  refine ax_iadd (pc := 97) C dX7_two_97 ?_
                  refine ax_istore_12 (pc := 98) C dX7_two_98 rfl ?_
                  refine ax_iload_5 (pc := 100) C dX7_two_100 ?_
                  refine ax_iload_12 (pc := 102) C dX7_two_102 ?_
                  refine ax_icmp_gt (pc := 104) (tgt := 111) C dX7_two_104 (by decide) (fun h104 => ?_) (fun h104 => ?_)
                  · refine ax_iconst (pc := 111) (v := 0) C dX7_two_111 (by decide) ?_
                    refine ax_istore_13 (pc := 112) C dX7_two_112 rfl ?_
                    refine ax_iload_5 (pc := 114) C dX7_two_114 ?_
                    refine ax_iload_13 (pc := 116) C dX7_two_116 ?_
                    refine ax_if_eq (pc := 118) (tgt := 125) C dX7_two_118 (by decide) (fun _ => ?_) (fun z => False.elim (absurd z (by decide)))
                    refine ax_iload_11 (pc := 125) C dX7_two_125 ?_
                    refine ax_icmp_gt (pc := 127) (tgt := 134) C dX7_two_127 (by decide) (fun h127 => ?_) (fun h127 => ?_)
                    · refine ax_iconst (pc := 134) (v := 0) C dX7_two_134 (by decide) ?_
                      refine ax_istore_14 (pc := 135) C dX7_two_135 rfl ?_
                      refine ax_iload_14 (pc := 137) C dX7_two_137 ?_
                      refine ax_if_eq (pc := 139) (tgt := 147) C dX7_two_139 (by decide) (fun _ => ?_) (fun z => False.elim (absurd z (by decide)))
                      refine ax_iload_13 (pc := 147) C dX7_two_147 ?_
                      refine ax_if_eq (pc := 149) (tgt := 156) C dX7_two_149 (by decide) (fun _ => ?_) (fun z => False.elim (absurd z (by decide)))
                      refine ax_iload_11 (pc := 156) C dX7_two_156 ?_
                      refine ax_istore_6 (pc := 158) C dX7_two_158 rfl ?_
                      refine ax_iload_14 (pc := 160) C dX7_two_160 ?_
                      refine ax_if_eq (pc := 162) (tgt := 169) C dX7_two_162 (by decide) (fun _ => ?_) (fun z => False.elim (absurd z (by decide)))
                      refine ax_iload_13 (pc := 169) C dX7_two_169 ?_
                      refine ax_if_eq (pc := 171) (tgt := 179) C dX7_two_171 (by decide) (fun _ => ?_) (fun z => False.elim (absurd z (by decide)))
                      refine ax_iload_12 (pc := 179) C dX7_two_179 ?_
                      refine ax_istore_7 (pc := 181) C dX7_two_181 rfl ?_
                      refine ax_iload_14 (pc := 183) C dX7_two_183 ?_
                      refine ax_if_ne (pc := 185) (tgt := 193) C dX7_two_185 (by decide) (fun z => False.elim (absurd z (by decide))) (fun _ => ?_)
                      refine ax_iload_13 (pc := 188) C dX7_two_188 ?_
                      refine ax_if_eq (pc := 190) (tgt := 198) C dX7_two_190 (by decide) (fun _ => ?_) (fun z => False.elim (absurd z (by decide)))
                      refine ax_iload_8 (pc := 198) C dX7_two_198 ?_
                      refine ax_istore_8 (pc := 200) C dX7_two_200 rfl ?_
                      refine ax_iload_14 (pc := 202) C dX7_two_202 ?_
                      refine ax_if_eq (pc := 204) (tgt := 211) C dX7_two_204 (by decide) (fun _ => ?_) (fun z => False.elim (absurd z (by decide)))
                      refine ax_iload_13 (pc := 211) C dX7_two_211 ?_
                      refine ax_if_eq (pc := 213) (tgt := 220) C dX7_two_213 (by decide) (fun _ => ?_) (fun z => False.elim (absurd z (by decide)))
                      refine ax_iload_9 (pc := 220) C dX7_two_220 ?_
                      refine ax_istore_9 (pc := 222) C dX7_two_222 rfl ?_
                      refine ax_iinc_10 (pc := 224) C dX7_two_224 (-1) (by decide) rfl ?_
                      refine ax_goto (pc := 227) (tgt := 72) C dX7_two_227 (by decide) ?_
                      refine ax_Leq ?_ (ih (m + 1) (some (.int (((ax_up σ 77 0 0) 81 (8 + 6 * u + 2)) + (tw_f (hs_toll (fun t => (ax_up σ 77 0 0) 81 (2 + t)) 2) ((ax_up σ 77 0 0) 81 (8 + 6 * u + 2)) ((ax_up σ 77 0 0) 81 (8 + 6 * v + 2)) (nI u) (nI v) m).1))) (some (.int (((ax_up σ 77 0 0) 81 (8 + 6 * v + 2)) + (tw_f (hs_toll (fun t => (ax_up σ 77 0 0) 81 (2 + t)) 2) ((ax_up σ 77 0 0) 81 (8 + 6 * u + 2)) ((ax_up σ 77 0 0) 81 (8 + 6 * v + 2)) (nI u) (nI v) m).2.1))) (some (.int 0)) (some (.int 0)) (by omega) (by omega))
                      rw [tw_t (by omega)]
                      simp_all [tw_f, tw_step, ← Int32.not_lt]
                    · refine ax_iconst (pc := 130) (v := 1) C dX7_two_130 (by decide) ?_
                      refine ax_goto (pc := 131) (tgt := 135) C dX7_two_131 (by decide) ?_
                      refine ax_istore_14 (pc := 135) C dX7_two_135 rfl ?_
                      refine ax_iload_14 (pc := 137) C dX7_two_137 ?_
                      refine ax_if_eq (pc := 139) (tgt := 147) C dX7_two_139 (by decide) (fun z => False.elim (absurd z (by decide))) (fun _ => ?_)
                      refine ax_iload_5 (pc := 142) C dX7_two_142 ?_
                      refine ax_goto (pc := 144) (tgt := 158) C dX7_two_144 (by decide) ?_
                      refine ax_istore_6 (pc := 158) C dX7_two_158 rfl ?_
                      refine ax_iload_14 (pc := 160) C dX7_two_160 ?_
                      refine ax_if_eq (pc := 162) (tgt := 169) C dX7_two_162 (by decide) (fun z => False.elim (absurd z (by decide))) (fun _ => ?_)
                      refine ax_iconst (pc := 165) (v := 0) C dX7_two_165 (by decide) ?_
                      refine ax_goto (pc := 166) (tgt := 181) C dX7_two_166 (by decide) ?_
                      refine ax_istore_7 (pc := 181) C dX7_two_181 rfl ?_
                      refine ax_iload_14 (pc := 183) C dX7_two_183 ?_
                      refine ax_if_ne (pc := 185) (tgt := 193) C dX7_two_185 (by decide) (fun _ => ?_) (fun z => False.elim (absurd z (by decide)))
                      refine ax_iload_10 (pc := 193) C dX7_two_193 ?_
                      refine ax_goto (pc := 195) (tgt := 200) C dX7_two_195 (by decide) ?_
                      refine ax_istore_8 (pc := 200) C dX7_two_200 rfl ?_
                      refine ax_iload_14 (pc := 202) C dX7_two_202 ?_
                      refine ax_if_eq (pc := 204) (tgt := 211) C dX7_two_204 (by decide) (fun z => False.elim (absurd z (by decide))) (fun _ => ?_)
                      refine ax_iload_1 (pc := 207) C dX7_two_207 ?_
                      refine ax_goto (pc := 208) (tgt := 222) C dX7_two_208 (by decide) ?_
                      refine ax_istore_9 (pc := 222) C dX7_two_222 rfl ?_
                      refine ax_iinc_10 (pc := 224) C dX7_two_224 (-1) (by decide) rfl ?_
                      refine ax_goto (pc := 227) (tgt := 72) C dX7_two_227 (by decide) ?_
                      refine ax_Leq ?_ (ih (m + 1) (some (.int (((ax_up σ 77 0 0) 81 (8 + 6 * u + 2)) + (tw_f (hs_toll (fun t => (ax_up σ 77 0 0) 81 (2 + t)) 2) ((ax_up σ 77 0 0) 81 (8 + 6 * u + 2)) ((ax_up σ 77 0 0) 81 (8 + 6 * v + 2)) (nI u) (nI v) m).1))) (some (.int (((ax_up σ 77 0 0) 81 (8 + 6 * v + 2)) + (tw_f (hs_toll (fun t => (ax_up σ 77 0 0) 81 (2 + t)) 2) ((ax_up σ 77 0 0) 81 (8 + 6 * u + 2)) ((ax_up σ 77 0 0) 81 (8 + 6 * v + 2)) (nI u) (nI v) m).2.1))) (some (.int 0)) (some (.int 1)) (by omega) (by omega))
                      rw [tw_t (by omega)]
                      simp_all [tw_f, tw_step, ← Int32.not_lt]
                  · refine ax_iconst (pc := 107) (v := 1) C dX7_two_107 (by decide) ?_
                    refine ax_goto (pc := 108) (tgt := 112) C dX7_two_108 (by decide) ?_
                    refine ax_istore_13 (pc := 112) C dX7_two_112 rfl ?_
                    refine ax_iload_5 (pc := 114) C dX7_two_114 ?_
                    refine ax_iload_13 (pc := 116) C dX7_two_116 ?_
                    refine ax_if_eq (pc := 118) (tgt := 125) C dX7_two_118 (by decide) (fun z => False.elim (absurd z (by decide))) (fun _ => ?_)
                    refine ax_iconst (pc := 121) (v := 0) C dX7_two_121 (by decide) ?_
                    refine ax_goto (pc := 122) (tgt := 127) C dX7_two_122 (by decide) ?_
                    refine ax_icmp_gt (pc := 127) (tgt := 134) C dX7_two_127 (by decide) (fun h127 => ?_) (fun h127 => ?_)
                    · refine ax_iconst (pc := 134) (v := 0) C dX7_two_134 (by decide) ?_
                      refine ax_istore_14 (pc := 135) C dX7_two_135 rfl ?_
                      refine ax_iload_14 (pc := 137) C dX7_two_137 ?_
                      refine ax_if_eq (pc := 139) (tgt := 147) C dX7_two_139 (by decide) (fun _ => ?_) (fun z => False.elim (absurd z (by decide)))
                      refine ax_iload_13 (pc := 147) C dX7_two_147 ?_
                      refine ax_if_eq (pc := 149) (tgt := 156) C dX7_two_149 (by decide) (fun z => False.elim (absurd z (by decide))) (fun _ => ?_)
                      refine ax_iconst (pc := 152) (v := 0) C dX7_two_152 (by decide) ?_
                      refine ax_goto (pc := 153) (tgt := 158) C dX7_two_153 (by decide) ?_
                      refine ax_istore_6 (pc := 158) C dX7_two_158 rfl ?_
                      refine ax_iload_14 (pc := 160) C dX7_two_160 ?_
                      refine ax_if_eq (pc := 162) (tgt := 169) C dX7_two_162 (by decide) (fun _ => ?_) (fun z => False.elim (absurd z (by decide)))
                      refine ax_iload_13 (pc := 169) C dX7_two_169 ?_
                      refine ax_if_eq (pc := 171) (tgt := 179) C dX7_two_171 (by decide) (fun z => False.elim (absurd z (by decide))) (fun _ => ?_)
                      refine ax_iload_5 (pc := 174) C dX7_two_174 ?_
                      refine ax_goto (pc := 176) (tgt := 181) C dX7_two_176 (by decide) ?_
                      refine ax_istore_7 (pc := 181) C dX7_two_181 rfl ?_
                      refine ax_iload_14 (pc := 183) C dX7_two_183 ?_
                      refine ax_if_ne (pc := 185) (tgt := 193) C dX7_two_185 (by decide) (fun z => False.elim (absurd z (by decide))) (fun _ => ?_)
                      refine ax_iload_13 (pc := 188) C dX7_two_188 ?_
                      refine ax_if_eq (pc := 190) (tgt := 198) C dX7_two_190 (by decide) (fun z => False.elim (absurd z (by decide))) (fun _ => ?_)
                      refine ax_iload_10 (pc := 193) C dX7_two_193 ?_
                      refine ax_goto (pc := 195) (tgt := 200) C dX7_two_195 (by decide) ?_
                      refine ax_istore_8 (pc := 200) C dX7_two_200 rfl ?_
                      refine ax_iload_14 (pc := 202) C dX7_two_202 ?_
                      refine ax_if_eq (pc := 204) (tgt := 211) C dX7_two_204 (by decide) (fun _ => ?_) (fun z => False.elim (absurd z (by decide)))
                      refine ax_iload_13 (pc := 211) C dX7_two_211 ?_
                      refine ax_if_eq (pc := 213) (tgt := 220) C dX7_two_213 (by decide) (fun z => False.elim (absurd z (by decide))) (fun _ => ?_)
                      refine ax_iload_2 (pc := 216) C dX7_two_216 ?_
                      refine ax_goto (pc := 217) (tgt := 222) C dX7_two_217 (by decide) ?_
                      refine ax_istore_9 (pc := 222) C dX7_two_222 rfl ?_
                      refine ax_iinc_10 (pc := 224) C dX7_two_224 (-1) (by decide) rfl ?_
                      refine ax_goto (pc := 227) (tgt := 72) C dX7_two_227 (by decide) ?_
                      refine ax_Leq ?_ (ih (m + 1) (some (.int (((ax_up σ 77 0 0) 81 (8 + 6 * u + 2)) + (tw_f (hs_toll (fun t => (ax_up σ 77 0 0) 81 (2 + t)) 2) ((ax_up σ 77 0 0) 81 (8 + 6 * u + 2)) ((ax_up σ 77 0 0) 81 (8 + 6 * v + 2)) (nI u) (nI v) m).1))) (some (.int (((ax_up σ 77 0 0) 81 (8 + 6 * v + 2)) + (tw_f (hs_toll (fun t => (ax_up σ 77 0 0) 81 (2 + t)) 2) ((ax_up σ 77 0 0) 81 (8 + 6 * u + 2)) ((ax_up σ 77 0 0) 81 (8 + 6 * v + 2)) (nI u) (nI v) m).2.1))) (some (.int 1)) (some (.int 0)) (by omega) (by omega))
                      rw [tw_t (by omega)]
                      simp_all [tw_f, tw_step, ← Int32.not_lt]
                    · refine ax_iconst (pc := 130) (v := 1) C dX7_two_130 (by decide) ?_
                      refine ax_goto (pc := 131) (tgt := 135) C dX7_two_131 (by decide) ?_
                      refine ax_istore_14 (pc := 135) C dX7_two_135 rfl ?_
                      refine ax_iload_14 (pc := 137) C dX7_two_137 ?_
                      refine ax_if_eq (pc := 139) (tgt := 147) C dX7_two_139 (by decide) (fun z => False.elim (absurd z (by decide))) (fun _ => ?_)
                      refine ax_iload_5 (pc := 142) C dX7_two_142 ?_
                      refine ax_goto (pc := 144) (tgt := 158) C dX7_two_144 (by decide) ?_
                      refine ax_istore_6 (pc := 158) C dX7_two_158 rfl ?_
                      refine ax_iload_14 (pc := 160) C dX7_two_160 ?_
                      refine ax_if_eq (pc := 162) (tgt := 169) C dX7_two_162 (by decide) (fun z => False.elim (absurd z (by decide))) (fun _ => ?_)
                      refine ax_iconst (pc := 165) (v := 0) C dX7_two_165 (by decide) ?_
                      refine ax_goto (pc := 166) (tgt := 181) C dX7_two_166 (by decide) ?_
                      refine ax_istore_7 (pc := 181) C dX7_two_181 rfl ?_
                      refine ax_iload_14 (pc := 183) C dX7_two_183 ?_
                      refine ax_if_ne (pc := 185) (tgt := 193) C dX7_two_185 (by decide) (fun _ => ?_) (fun z => False.elim (absurd z (by decide)))
                      refine ax_iload_10 (pc := 193) C dX7_two_193 ?_
                      refine ax_goto (pc := 195) (tgt := 200) C dX7_two_195 (by decide) ?_
                      refine ax_istore_8 (pc := 200) C dX7_two_200 rfl ?_
                      refine ax_iload_14 (pc := 202) C dX7_two_202 ?_
                      refine ax_if_eq (pc := 204) (tgt := 211) C dX7_two_204 (by decide) (fun z => False.elim (absurd z (by decide))) (fun _ => ?_)
                      refine ax_iload_1 (pc := 207) C dX7_two_207 ?_
                      refine ax_goto (pc := 208) (tgt := 222) C dX7_two_208 (by decide) ?_
                      refine ax_istore_9 (pc := 222) C dX7_two_222 rfl ?_
                      refine ax_iinc_10 (pc := 224) C dX7_two_224 (-1) (by decide) rfl ?_
                      refine ax_goto (pc := 227) (tgt := 72) C dX7_two_227 (by decide) ?_
                      refine ax_Leq ?_ (ih (m + 1) (some (.int (((ax_up σ 77 0 0) 81 (8 + 6 * u + 2)) + (tw_f (hs_toll (fun t => (ax_up σ 77 0 0) 81 (2 + t)) 2) ((ax_up σ 77 0 0) 81 (8 + 6 * u + 2)) ((ax_up σ 77 0 0) 81 (8 + 6 * v + 2)) (nI u) (nI v) m).1))) (some (.int (((ax_up σ 77 0 0) 81 (8 + 6 * v + 2)) + (tw_f (hs_toll (fun t => (ax_up σ 77 0 0) 81 (2 + t)) 2) ((ax_up σ 77 0 0) 81 (8 + 6 * u + 2)) ((ax_up σ 77 0 0) 81 (8 + 6 * v + 2)) (nI u) (nI v) m).2.1))) (some (.int 1)) (some (.int 1)) (by omega) (by omega))
                      rw [tw_t (by omega)]
                      simp_all [tw_f, tw_step, ← Int32.not_lt]
            exact loop 13 0 none none none none (by omega) (by omega)
          · have h41 := ax_beq h41
            refine ax_ldc (pc := 44) C dX7_two_44 qX7_85 ?_
            exact ax_ir (pc := 46) C rfl dX7_two_46 (by rw [if_neg (fun z => h41 z.2.2.2.2)]) rfl
