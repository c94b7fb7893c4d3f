set_option maxRecDepth 20000 in
set_option maxHeartbeats 4000000 in
theorem w_X7_ford {Y : ax_Y} {ad : Nat → Nat} (F : ax_F Y) {l : Launch} {σ : ax_Z} {n : Nat} (hn : σ 81 0 = nI n) (h6 : n ≤ 6) {T : Nat} (hT : hs_toll (fun t => σ 81 (2 + t)) 1 = nI T) (hT9 : T ≤ 99) {Hf : Nat → Nat} (hH : ∀ c, c < n → σ 81 (8 + 6 * c + 2) = nI (Hf c) ∧ Hf c ≤ 20) {cart p w k : Int32} : ax_m Y ad l iX7_ford 2 σ [.ref (ad 77), .int cart, .int p, .int w, .int k] (some (.int (if ((0 ≤ cart ∧ cart ≤ nI n - 1) ∧ (0 ≤ p ∧ p ≤ 100) ∧ (0 ≤ w ∧ w ≤ 3) ∧ (0 ≤ k ∧ k ≤ 1)) then (if k = 0 then nI ((fd_f T (Hf cart.toNatClampNeg) p.toNatClampNeg w.toNatClampNeg) / Nat.gcd (fd_f T (Hf cart.toNatClampNeg) p.toNatClampNeg w.toNatClampNeg) (100 ^ w.toNatClampNeg)) else nI ((100 ^ w.toNatClampNeg) / Nat.gcd (fd_f T (Hf cart.toNatClampNeg) p.toNatClampNeg w.toNatClampNeg) (100 ^ w.toNatClampNeg))) else -1000001))) (ax_up σ 77 0 0) := by
  refine ax_m.of F kX7_ford.1 [some (.ref (ad 77)), some (.int (cart)), some (.int (p)), some (.int (w)), some (.int (k)), none, none, none, none, none] rfl (Nat.le_of_ble_eq_true rfl) (fun x C => ?_)
  refine ax_aload_0 (pc := 0) C dX7_ford_0 ?_
  refine ax_iconst (pc := 1) (v := 0) C dX7_ford_1 (by decide) ?_
  refine ax_putI (pc := 2) C fX7_65 dX7_ford_2 rfl rfl rfl rfl ?_
  refine ax_aload_0 (pc := 5) C dX7_ford_5 ?_
  refine ax_iload_1 (pc := 6) C dX7_ford_6 ?_
  refine ax_callVi (pc := 7) C (w_X7_isCart F (n := n) (by rw [up_ne (by decide)]; exact hn)) kX7_isCart mX7_230 dX7_ford_7 (by decide) rfl rfl rfl rfl rfl (Nat.le_of_ble_eq_true rfl) rfl ⟨Nat.le_refl _, Nat.le_refl _⟩ ?_
  refine ax_if_eq (pc := 10) (tgt := 48) C dX7_ford_10 (by decide) (fun h10 => ?_) (fun h10 => ?_)
  · have h10 := ax_beq h10
    refine ax_ldc (pc := 48) C dX7_ford_48 qX7_85 ?_
    exact ax_ir (pc := 50) C rfl dX7_ford_50 (by rw [if_neg (fun z => h10 z.1)]) rfl
  · have h10 := ax_bne h10
    refine ax_iload_2 (pc := 13) C dX7_ford_13 ?_
    refine ax_i2l (pc := 14) C dX7_ford_14 ?_
    refine ax_lconst (pc := 15) (v := 0) C dX7_ford_15 (by decide) ?_
    refine ax_ldc2 (pc := 16) C dX7_ford_16 qX7_262 ?_
    refine ax_callSi (pc := 19) C (w_X7_in F (lo := (0)) (hi := (100)) rfl rfl) kX7_in mX7_75 dX7_ford_19 (by decide) rfl rfl (Nat.le_of_ble_eq_true rfl) rfl ⟨Nat.le_refl _, Nat.le_refl _⟩ ?_
    refine ax_if_eq (pc := 22) (tgt := 48) C dX7_ford_22 (by decide) (fun h22 => ?_) (fun h22 => ?_)
    · have h22 := ax_beq h22
      refine ax_ldc (pc := 48) C dX7_ford_48 qX7_85 ?_
      exact ax_ir (pc := 50) C rfl dX7_ford_50 (by rw [if_neg (fun z => h22 z.2.1)]) rfl
    · have h22 := ax_bne h22
      refine ax_iload_3 (pc := 25) C dX7_ford_25 ?_
      refine ax_i2l (pc := 26) C dX7_ford_26 ?_
      refine ax_lconst (pc := 27) (v := 0) C dX7_ford_27 (by decide) ?_
      refine ax_ldc2 (pc := 28) C dX7_ford_28 qX7_264 ?_
      refine ax_callSi (pc := 31) C (w_X7_in F (lo := (0)) (hi := (3)) rfl rfl) kX7_in mX7_75 dX7_ford_31 (by decide) rfl rfl (Nat.le_of_ble_eq_true rfl) rfl ⟨Nat.le_refl _, Nat.le_refl _⟩ ?_
      refine ax_if_eq (pc := 34) (tgt := 48) C dX7_ford_34 (by decide) (fun h34 => ?_) (fun h34 => ?_)
      · have h34 := ax_beq h34
        refine ax_ldc (pc := 48) C dX7_ford_48 qX7_85 ?_
        exact ax_ir (pc := 50) C rfl dX7_ford_50 (by rw [if_neg (fun z => h34 z.2.2.1)]) rfl
      · have h34 := ax_bne h34
        refine ax_iload_4 (pc := 37) C dX7_ford_37 ?_
        refine ax_i2l (pc := 39) C dX7_ford_39 ?_
        refine ax_lconst (pc := 40) (v := 0) C dX7_ford_40 (by decide) ?_
        refine ax_lconst (pc := 41) (v := 1) C dX7_ford_41 (by decide) ?_
        refine ax_callSi (pc := 42) C (w_X7_in F (lo := (0)) (hi := (1)) rfl rfl) kX7_in mX7_75 dX7_ford_42 (by decide) rfl rfl (Nat.le_of_ble_eq_true rfl) rfl ⟨Nat.le_refl _, Nat.le_refl _⟩ ?_
        refine ax_if_ne (pc := 45) (tgt := 51) C dX7_ford_45 (by decide) (fun h45 => ?_) (fun h45 => ?_)
        · have h45 := ax_bne h45
          obtain ⟨c, hc, rfl⟩ := ax_ixN (by omega) h10
          have ec : (nI c).toNatClampNeg = c := nI_clamp (by omega)
          obtain ⟨P, hP, rfl⟩ := ax_ix (m := 100) (by decide) h22
          have ep : (nI P).toNatClampNeg = P := nI_clamp (by omega)
          obtain ⟨W, hW, rfl⟩ := ax_ix (m := 3) (by decide) h34
          have ew : (nI W).toNatClampNeg = W := nI_clamp (by omega)
          have hq := And.intro h10 (And.intro h22 (And.intro h34 h45))
          simp only [if_pos hq, ec, ep, ew]
          obtain ⟨hH1, hH2⟩ := hH c hc
          refine ax_aload_0 (pc := 51) C dX7_ford_51 ?_
          refine ax_iconst (pc := 52) (v := 1) C dX7_ford_52 (by decide) ?_
          refine ax_callVi (pc := 53) C (w_X7_tollFor F (k := 1) (by decide) (by decide)) kX7_tollFor mX7_217 dX7_ford_53 (by decide) rfl rfl rfl rfl rfl (Nat.le_of_ble_eq_true rfl) rfl ⟨Nat.le_refl _, Nat.le_refl _⟩ ?_
          refine ax_val C (show _ = nI T by rw [up_ne (by decide)]; exact hT) ?_
          refine ax_istore_5 (pc := 56) C dX7_ford_56 rfl ?_
          refine ax_iconst (pc := 58) (v := 1) C dX7_ford_58 (by decide) ?_
          refine ax_istore_6 (pc := 59) C dX7_ford_59 rfl ?_
          refine ax_iconst (pc := 61) (v := 0) C dX7_ford_61 (by decide) ?_
          refine ax_istore_7 (pc := 62) C dX7_ford_62 rfl ?_
          have hA31 : (fd_f T (Hf c) P W) < 2 ^ 31 := Nat.lt_trans (fd_27 hT9 hW) (by decide)
          have hB0 : 0 < (100 ^ W) := Nat.pow_pos (by decide)
          have hB31 : (100 ^ W) < 2 ^ 31 := Nat.lt_of_le_of_lt (Nat.pow_le_pow_right (by decide) hW) (by decide)
          have tl : ∀ (z : Option Value), ax_S x Y ad 0 0 (ax_Q x Y ad (some (.int (if k = 0 then nI ((fd_f T (Hf c) P W) / Nat.gcd (fd_f T (Hf c) P W) (100 ^ W)) else nI ((100 ^ W) / Nat.gcd (fd_f T (Hf c) P W) (100 ^ W))))) 96 (ax_g Y ad (ax_up σ 77 0 0)) 0 0) (ax_up σ 77 0 0) 130 [some (.ref (ad 77)), some (.int (nI c)), some (.int (nI P)), some (.int (nI W)), some (.int (k)), some (.int (nI (fd_f T (Hf c) P W))), some (.int (nI (100 ^ W))), some (.int (nI W)), z, none] [] := by
            intro z
            have loop2 : ∀ (q : Nat) (g l : Nat) (z : Option Value), l < q → g < 2 ^ 31 → l < 2 ^ 31 → Nat.gcd g l = Nat.gcd (fd_f T (Hf c) P W) (100 ^ W) → ax_S x Y ad 0 0 (ax_Q x Y ad (some (.int (if k = 0 then nI ((fd_f T (Hf c) P W) / Nat.gcd (fd_f T (Hf c) P W) (100 ^ W)) else nI ((100 ^ W) / Nat.gcd (fd_f T (Hf c) P W) (100 ^ W))))) 96 (ax_g Y ad (ax_up σ 77 0 0)) 0 0) (ax_up σ 77 0 0) 138 [some (.ref (ad 77)), some (.int (nI c)), some (.int (nI P)), some (.int (nI W)), some (.int (k)), some (.int (nI (fd_f T (Hf c) P W))), some (.int (nI (100 ^ W))), some (.int (nI g)), some (.int (nI l)), z] [] := by
              intro q
              induction q with
              | zero => intro g l z hlq hg31 hl31 hG; exfalso; omega
              | succ q ih =>
                intro g l z hlq hg31 hl31 hG
                refine ax_iload_8 (pc := 138) C dX7_ford_138 ?_
                refine ax_if_eq (pc := 140) (tgt := 161) C dX7_ford_140 (by decide) (fun h140 => ?_) (fun h140 => ?_)
                · have hl0 : l = 0 := (nI_eq (b := 0) (by omega) (by decide)).mp h140
                  subst hl0
                  rw [Nat.gcd_zero_right] at hG
                  have hg0 : 0 < g := by rw [hG]; exact Nat.gcd_pos_of_pos_right _ hB0
                  have hgn : ¬ nI g = 0 := nI_ne0 hg0 hg31
                  refine ax_iload_4 (pc := 161) C dX7_ford_161 ?_
                  refine ax_if_ne (pc := 163) (tgt := 171) C dX7_ford_163 (by decide) (fun h163 => ?_) (fun h163 => ?_)
                  · refine ax_iload_6 (pc := 171) C dX7_ford_171 ?_
                    refine ax_iload_7 (pc := 173) C dX7_ford_173 ?_
                    refine ax_idiv (pc := 175) C dX7_ford_175 (by assumption) ?_
                    exact ax_ir (pc := 176) C rfl dX7_ford_176 (by rw [if_neg h163, ← hG, pk_div hB31 hg0 hg31]) rfl
                  · refine ax_iload_5 (pc := 166) C dX7_ford_166 ?_
                    refine ax_goto (pc := 168) (tgt := 173) C dX7_ford_168 (by decide) ?_
                    refine ax_iload_7 (pc := 173) C dX7_ford_173 ?_
                    refine ax_idiv (pc := 175) C dX7_ford_175 (by assumption) ?_
                    exact ax_ir (pc := 176) C rfl dX7_ford_176 (by rw [if_pos h163, ← hG, pk_div hA31 hg0 hg31]) rfl
                · have hl0 : 0 < l := Nat.pos_of_ne_zero (fun z => h140 (by rw [z]; rfl))
                  have hlr : g % l < l := Nat.mod_lt _ hl0
                  refine ax_iload_7 (pc := 143) C dX7_ford_143 ?_
                  refine ax_iload_8 (pc := 145) C dX7_ford_145 ?_
                  refine ax_irem (pc := 147) C dX7_ford_147 h140 ?_
                  refine ax_val C (pk_rem hg31 hl0 hl31) ?_
                  refine ax_istore_9 (pc := 148) C dX7_ford_148 rfl ?_
                  refine ax_iload_8 (pc := 150) C dX7_ford_150 ?_
                  refine ax_istore_7 (pc := 152) C dX7_ford_152 rfl ?_
                  refine ax_iload_9 (pc := 154) C dX7_ford_154 ?_
                  refine ax_istore_8 (pc := 156) C dX7_ford_156 rfl ?_
                  refine ax_goto (pc := 158) (tgt := 138) C dX7_ford_158 (by decide) ?_
                  exact ih l (g % l) (some (.int (nI (g % l)))) (by omega) hl31 (by omega) (by rw [← hG, Nat.gcd_comm g l, Nat.gcd_rec l g, Nat.gcd_comm])
            refine ax_iload_5 (pc := 130) C dX7_ford_130 ?_
            refine ax_istore_7 (pc := 132) C dX7_ford_132 rfl ?_
            refine ax_iload_6 (pc := 134) C dX7_ford_134 ?_
            refine ax_istore_8 (pc := 136) C dX7_ford_136 rfl ?_
            exact loop2 ((100 ^ W) + 1) (fd_f T (Hf c) P W) (100 ^ W) none (by omega) hA31 hB31 rfl
          have loop : ∀ (q : Nat) (m : Nat) (z : Option Value), m ≤ W → W < m + q → ax_S x Y ad 0 0 (ax_Q x Y ad (some (.int (if k = 0 then nI ((fd_f T (Hf c) P W) / Nat.gcd (fd_f T (Hf c) P W) (100 ^ W)) else nI ((100 ^ W) / Nat.gcd (fd_f T (Hf c) P W) (100 ^ W))))) 96 (ax_g Y ad (ax_up σ 77 0 0)) 0 0) (ax_up σ 77 0 0) 64 [some (.ref (ad 77)), some (.int (nI c)), some (.int (nI P)), some (.int (nI W)), some (.int (k)), some (.int (nI (fd_f T (Hf c) P m))), some (.int (nI (100 ^ m))), some (.int (nI m)), z, none] [] := by
            intro q
            induction q with
            | zero => intro m z h1 h2; exfalso; omega
            | succ q ih =>
              intro m z h1 h2
              refine ax_iload_7 (pc := 64) C dX7_ford_64 ?_
              refine ax_iload_3 (pc := 66) C dX7_ford_66 ?_
              refine ax_icmp_ge (pc := 67) (tgt := 130) C dX7_ford_67 (by decide) (fun h67 => ?_) (fun h67 => ?_)
              · have hm : ¬ m < W := fun z => nI_ge z (by omega) h67
                have em : m = W := by omega
                subst em
                exact tl z
              · have hm : m < W := Nat.lt_of_not_le (fun z => h67 (nI_le z (by omega)))
                obtain ⟨b1, b2⟩ := fd_bd (P := P) hT9 hH2 (show m < 3 by omega)
                refine ax_iload_6 (pc := 70) C dX7_ford_70 ?_
                refine ax_bipush (pc := 72) (v := 100) C dX7_ford_72 (by decide) ?_
                refine ax_imul (pc := 74) C dX7_ford_74 ?_
                refine ax_val C (show _ = nI (100 ^ (m + 1)) by rw [show (100 : Int32) = nI 100 from rfl, pk_mul, ← Nat.pow_succ]) ?_
                refine ax_istore_6 (pc := 75) C dX7_ford_75 rfl ?_
                refine ax_aload_0 (pc := 77) C dX7_ford_77 ?_
                refine ax_iload_1 (pc := 78) C dX7_ford_78 ?_
                refine ax_iconst (pc := 79) (v := 2) C dX7_ford_79 (by decide) ?_
                refine ax_callVi (pc := 80) C (w_X7_of F (k := 2) (by omega) (by decide)) kX7_of mX7_201 dX7_ford_80 (by decide) rfl rfl rfl rfl rfl (Nat.le_of_ble_eq_true rfl) rfl ⟨Nat.le_refl _, Nat.le_refl _⟩ ?_
                refine ax_val C (show _ = nI (Hf c) by rw [up_ne (by decide)]; exact hH1) ?_
                refine ax_iload_6 (pc := 83) C dX7_ford_83 ?_
                refine ax_imul (pc := 85) C dX7_ford_85 ?_
                refine ax_val C (pk_mul _ _) ?_
                refine ax_bipush (pc := 86) (v := 100) C dX7_ford_86 (by decide) ?_
                refine ax_iload_2 (pc := 88) C dX7_ford_88 ?_
                refine ax_isub (pc := 89) C dX7_ford_89 ?_
                refine ax_val C (show _ = nI (100 - P) by rw [show (100 : Int32) = nI 100 from rfl, pk_sub hP]) ?_
                refine ax_iload_5 (pc := 90) C dX7_ford_90 ?_
                refine ax_imul (pc := 92) C dX7_ford_92 ?_
                refine ax_val C (pk_mul _ _) ?_
                refine ax_iadd (pc := 93) C dX7_ford_93 ?_
                refine ax_val C (show _ = nI (Hf c * 100 ^ (m + 1) + (100 - P) * (fd_f T (Hf c) P m)) by rw [nI_add]) ?_
                refine ax_istore_8 (pc := 94) C dX7_ford_94 rfl ?_
                refine ax_aload_0 (pc := 96) C dX7_ford_96 ?_
                refine ax_iconst (pc := 97) (v := 1) C dX7_ford_97 (by decide) ?_
                refine ax_callVi (pc := 98) C (w_X7_tollFor F (k := 1) (by decide) (by decide)) kX7_tollFor mX7_217 dX7_ford_98 (by decide) rfl rfl rfl rfl rfl (Nat.le_of_ble_eq_true rfl) rfl ⟨Nat.le_refl _, Nat.le_refl _⟩ ?_
                refine ax_val C (show _ = nI T by rw [up_ne (by decide)]; exact hT) ?_
                refine ax_iload_6 (pc := 101) C dX7_ford_101 ?_
                refine ax_imul (pc := 103) C dX7_ford_103 ?_
                refine ax_val C (pk_mul _ _) ?_
                refine ax_iload_8 (pc := 104) C dX7_ford_104 ?_
                refine ax_icmp_ge (pc := 106) (tgt := 120) C dX7_ford_106 (by decide) (fun h106 => ?_) (fun h106 => ?_)
                · refine ax_iload_8 (pc := 120) C dX7_ford_120 ?_
                  refine ax_istore_5 (pc := 122) C dX7_ford_122 rfl ?_
                  refine ax_iinc_7 (pc := 124) C dX7_ford_124 (1) (by decide) rfl ?_
                  refine ax_goto (pc := 127) (tgt := 64) C dX7_ford_127 (by decide) ?_
                  have e := Nat.min_eq_left ((nI_leI (by omega) (by omega)).mp h106)
                  refine ax_Leq ?_ (ih (m + 1) (some (.int (nI (Hf c * 100 ^ (m + 1) + (100 - P) * (fd_f T (Hf c) P m))))) (by omega) (by omega))
                  rw [fd_f, e, nI_1]
                · refine ax_aload_0 (pc := 109) C dX7_ford_109 ?_
                  refine ax_iconst (pc := 110) (v := 1) C dX7_ford_110 (by decide) ?_
                  refine ax_callVi (pc := 111) C (w_X7_tollFor F (k := 1) (by decide) (by decide)) kX7_tollFor mX7_217 dX7_ford_111 (by decide) rfl rfl rfl rfl rfl (Nat.le_of_ble_eq_true rfl) rfl ⟨Nat.le_refl _, Nat.le_refl _⟩ ?_
                  refine ax_val C (show _ = nI T by rw [up_ne (by decide)]; exact hT) ?_
                  refine ax_iload_6 (pc := 114) C dX7_ford_114 ?_
                  refine ax_imul (pc := 116) C dX7_ford_116 ?_
                  refine ax_val C (pk_mul _ _) ?_
                  refine ax_goto (pc := 117) (tgt := 122) C dX7_ford_117 (by decide) ?_
                  refine ax_istore_5 (pc := 122) C dX7_ford_122 rfl ?_
                  refine ax_iinc_7 (pc := 124) C dX7_ford_124 (1) (by decide) rfl ?_
                  refine ax_goto (pc := 127) (tgt := 64) C dX7_ford_127 (by decide) ?_
                  have e := Nat.min_eq_right (Nat.le_of_lt (Nat.lt_of_not_le (fun z => h106 (nI_le z (by omega)))))
                  refine ax_Leq ?_ (ih (m + 1) (some (.int (nI (Hf c * 100 ^ (m + 1) + (100 - P) * (fd_f T (Hf c) P m))))) (by omega) (by omega))
                  rw [fd_f, e, nI_1]
          exact loop (W + 1) 0 none (by omega) (by omega)
        · have h45 := ax_beq h45
          refine ax_ldc (pc := 48) C dX7_ford_48 qX7_85 ?_
          exact ax_ir (pc := 50) C rfl dX7_ford_50 (by rw [if_neg (fun z => h45 z.2.2.2)]) rfl
