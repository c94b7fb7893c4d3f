/-- what byteAt gives -/
def bA (b : Nat → Int32) (N i : Nat) : Int32 := if i < N then b i else -1000000
theorem bA_w {b : Nat → Int32} {N p : Nat} : (bA b N p = 32 ∨ bA b N p = 10) ↔ (p < N ∧ isW b p = true) := by
  unfold bA isW
  by_cases h : p < N
  · rw [if_pos h]
    simp [h]
  · rw [if_neg h]
    simp [h]
theorem bA_l {b : Nat → Int32} {N p : Nat} : (97 ≤ bA b N p ∧ bA b N p ≤ 122) ↔ (p < N ∧ isL b p = true) := by
  unfold bA isL
  by_cases h : p < N
  · rw [if_pos h]
    simp [h]
  · rw [if_neg h]
    simp [h]
theorem bA_f {b : Nat → Int32} {N p : Nat} : (48 ≤ bA b N p ∧ bA b N p ≤ 57) ↔ (p < N ∧ isF b p = true) := by
  unfold bA isF
  by_cases h : p < N
  · rw [if_pos h]
    simp [h]
  · rw [if_neg h]
    simp [h]
/-- the reference's number of a token's sort -/
def mx_k (k : Nat) : Nat := if k = 4 then 0 else k + 1
/-- the reference's reader behind a step -/
def mx_st (σ : ax_Z) (s e k : Nat) : ax_Z := ax_up (ax_up (ax_up (ax_up σ 77 14 (nI e)) 77 16 (nI s)) 77 15 (nI (mx_k k))) 77 17 (nI e)
theorem mx_c {σ : ax_Z} {s s2 e k : Int32} : ax_up (ax_up (ax_up (ax_up (ax_up σ 77 14 s) 77 16 s2) 77 14 e) 77 15 k) 77 17 e = ax_up (ax_up (ax_up (ax_up σ 77 14 e) 77 16 s2) 77 15 k) 77 17 e := by
  funext x y
  simp only [ax_up]
  by_cases h : x = 77
  · by_cases h5 : y = 14
    · simp [h, h5]
    · simp [h, h5]
  · simp [h]

set_option maxRecDepth 20000 in
set_option maxHeartbeats 4000000 in
theorem w_X7_next {Y : ax_Y} {ad : Nat → Nat} (F : ax_F Y) {l : Launch} {σ : ax_Z} {b : Nat → Int32} {N e : Nat} (hN : σ 77 13 = nI N) (h400 : N ≤ 400) (hb : σ 84 = b) (hb0 : ∀ i, i < N → b i ≠ -1000000) (he : σ 77 14 = nI e) (heN : e ≤ N) : ax_m Y ad l iX7_next 1 σ [.ref (ad 77)] none (mx_st σ (tkS b N e) (tkE b N e) (tkK b N e)) := by
  refine ax_m.of F kX7_next.1 [some (.ref (ad 77)), none] rfl (Nat.le_of_ble_eq_true rfl) (fun x C => ?_)
  have hSN : (tkS b N e) ≤ N := LX_le heN
  have hEE := tkE_le (b := b) heN
  have hSE := hEE.1
  have hEN := hEE.2
  have l2 : ∀ (q : Nat) (p : Nat) (τ : ax_Z), τ = ax_up (ax_up (ax_up σ 77 14 (nI (tkS b N e))) 77 16 (nI (tkS b N e))) 77 14 (nI p) → p ≤ N → LX (isL b) N p = LX (isL b) N (tkS b N e) → N < p + q → (tkE b N e) = LX (isL b) N (tkS b N e) → (tkK b N e) = 1 → ax_S x Y ad 0 0 (ax_Q x Y ad none 96 (ax_g Y ad (mx_st σ (tkS b N e) (tkE b N e) (tkK b N e))) 0 0) τ 77 [some (.ref (ad 77)), some (.int (bA b N (tkS b N e)))] [] := by
    intro q
    induction q with
    | zero => intro p τ ee h1 hT h2 hE hK; exfalso; omega
    | succ q ih =>
      intro p τ ee h1 hT h2 hE hK
      have e14 : τ 77 14 = nI p := by rw [ee, up_s]
      have e13 : τ 77 13 = nI N := by rw [ee]; simp (disch := decide) only [up_o]; exact hN
      have e84 : τ 84 = b := by rw [ee]; simp (disch := decide) only [up_ne]; exact hb
      refine ax_aload_0 (pc := 77) C dX7_next_77 ?_
      refine ax_aload_0 (pc := 78) C dX7_next_78 ?_
      refine ax_getI (pc := 79) C fX7_102 dX7_next_79 rfl rfl ?_
      refine ax_val C e14 ?_
      refine ax_callVi (pc := 82) C (w_X7_byteAt F (m := N) (i := p) e13 h400 (by omega)) kX7_byteAt mX7_105 dX7_next_82 (by decide) rfl rfl rfl rfl rfl (Nat.le_of_ble_eq_true rfl) rfl ⟨Nat.le_refl _, Nat.le_refl _⟩ ?_
      refine ax_val C (show _ = bA b N p by rw [e84]; rfl) ?_
      refine ax_callSi (pc := 85) C (w_X7_isLetter F) kX7_isLetter mX7_114 dX7_next_85 (by decide) rfl rfl (Nat.le_of_ble_eq_true rfl) rfl ⟨Nat.le_refl _, Nat.le_refl _⟩ ?_
      refine ax_if_eq (pc := 88) (tgt := 104) C dX7_next_88 (by decide) (fun h88 => ?_) (fun h88 => ?_)
      · have h88 := ax_beq h88
        have hpT : p = LX (isL b) N (tkS b N e) := by rw [← hT, LX_e (fun z => h88 (bA_l.mpr z))]
        have e14b : τ 77 14 = nI (tkE b N e) := by rw [e14, hpT, hE]
        refine ax_aload_0 (pc := 104) C dX7_next_104 ?_
        refine ax_iconst (pc := 105) (v := 2) C dX7_next_105 (by decide) ?_
        refine ax_putI (pc := 106) C fX7_111 dX7_next_106 rfl rfl rfl rfl ?_
        refine ax_goto (pc := 109) (tgt := 196) C dX7_next_109 (by decide) ?_
        refine ax_aload_0 (pc := 196) C dX7_next_196 ?_
        refine ax_aload_0 (pc := 197) C dX7_next_197 ?_
        refine ax_getI (pc := 198) C fX7_102 dX7_next_198 rfl rfl ?_
        refine ax_val C (show _ = nI (tkE b N e) by rw [up_o (by decide)]; exact e14b) ?_
        refine ax_putI (pc := 201) C fX7_120 dX7_next_201 rfl rfl rfl rfl ?_
        exact ax_vr (pc := 204) C rfl dX7_next_204 (by rw [mx_st, ee, hpT, ← hE, hK]; exact mx_c.symm)
      · have h88 := ax_bne h88
        refine ax_aload_0 (pc := 91) C dX7_next_91 ?_
        refine ax_dup (pc := 92) C dX7_next_92 rfl ?_
        refine ax_getI (pc := 93) C fX7_102 dX7_next_93 rfl rfl ?_
        refine ax_val C e14 ?_
        refine ax_iconst (pc := 96) (v := 1) C dX7_next_96 (by decide) ?_
        refine ax_iadd (pc := 97) C dX7_next_97 ?_
        refine ax_val C (nI_1 p) ?_
        refine ax_putI (pc := 98) C fX7_102 dX7_next_98 rfl rfl rfl rfl ?_
        refine ax_goto (pc := 101) (tgt := 77) C dX7_next_101 (by decide) ?_
        have hw := bA_l.mp h88
        refine ax_Seq (by rw [ee, up_up]) (ih (p + 1) _ rfl (by omega) (by rw [← hT, LX_s hw.1 hw.2]) (by omega) hE hK)
  have l3 : ∀ (q : Nat) (p : Nat) (τ : ax_Z), τ = ax_up (ax_up (ax_up σ 77 14 (nI (tkS b N e))) 77 16 (nI (tkS b N e))) 77 14 (nI p) → p ≤ N → LX (isF b) N p = LX (isF b) N (tkS b N e) → N < p + q → (tkE b N e) = LX (isF b) N (tkS b N e) → (tkK b N e) = (if (tkE b N e) - (tkS b N e) ≤ 3 then 2 else 4) → ax_S x Y ad 0 0 (ax_Q x Y ad none 96 (ax_g Y ad (mx_st σ (tkS b N e) (tkE b N e) (tkK b N e))) 0 0) τ 119 [some (.ref (ad 77)), some (.int (bA b N (tkS b N e)))] [] := by
    intro q
    induction q with
    | zero => intro p τ ee h1 hT h2 hE hK; exfalso; omega
    | succ q ih =>
      intro p τ ee h1 hT h2 hE hK
      have e14 : τ 77 14 = nI p := by rw [ee, up_s]
      have e13 : τ 77 13 = nI N := by rw [ee]; simp (disch := decide) only [up_o]; exact hN
      have e84 : τ 84 = b := by rw [ee]; simp (disch := decide) only [up_ne]; exact hb
      refine ax_aload_0 (pc := 119) C dX7_next_119 ?_
      refine ax_aload_0 (pc := 120) C dX7_next_120 ?_
      refine ax_getI (pc := 121) C fX7_102 dX7_next_121 rfl rfl ?_
      refine ax_val C e14 ?_
      refine ax_callVi (pc := 124) C (w_X7_byteAt F (m := N) (i := p) e13 h400 (by omega)) kX7_byteAt mX7_105 dX7_next_124 (by decide) rfl rfl rfl rfl rfl (Nat.le_of_ble_eq_true rfl) rfl ⟨Nat.le_refl _, Nat.le_refl _⟩ ?_
      refine ax_val C (show _ = bA b N p by rw [e84]; rfl) ?_
      refine ax_callSi (pc := 127) C (w_X7_isFigure F) kX7_isFigure mX7_117 dX7_next_127 (by decide) rfl rfl (Nat.le_of_ble_eq_true rfl) rfl ⟨Nat.le_refl _, Nat.le_refl _⟩ ?_
      refine ax_if_eq (pc := 130) (tgt := 146) C dX7_next_130 (by decide) (fun h130 => ?_) (fun h130 => ?_)
      · have h130 := ax_beq h130
        have hpT : p = LX (isF b) N (tkS b N e) := by rw [← hT, LX_e (fun z => h130 (bA_f.mpr z))]
        have e14b : τ 77 14 = nI (tkE b N e) := by rw [e14, hpT, hE]
        refine ax_aload_0 (pc := 146) C dX7_next_146 ?_
        refine ax_aload_0 (pc := 147) C dX7_next_147 ?_
        refine ax_getI (pc := 148) C fX7_102 dX7_next_148 rfl rfl ?_
        refine ax_val C e14b ?_
        refine ax_aload_0 (pc := 151) C dX7_next_151 ?_
        refine ax_getI (pc := 152) C fX7_108 dX7_next_152 rfl rfl ?_
        refine ax_val C (show _ = nI (tkS b N e) by rw [ee]; rw [up_o (by decide), up_s]) ?_
        refine ax_isub (pc := 155) C dX7_next_155 ?_
        refine ax_val C (pk_sub hSE) ?_
        refine ax_iconst (pc := 156) (v := 3) C dX7_next_156 (by decide) ?_
        refine ax_icmp_le (pc := 157) (tgt := 164) C dX7_next_157 (by decide) (fun h157 => ?_) (fun h157 => ?_)
        · have h157 : (tkE b N e) - (tkS b N e) ≤ 3 := (nI_leI (b := 3) (by omega) (by decide)).mp h157
          rw [if_pos h157] at hK
          refine ax_iconst (pc := 164) (v := 3) C dX7_next_164 (by decide) ?_
          refine ax_putI (pc := 165) C fX7_111 dX7_next_165 rfl rfl rfl rfl ?_
          refine ax_goto (pc := 168) (tgt := 196) C dX7_next_168 (by decide) ?_
          refine ax_aload_0 (pc := 196) C dX7_next_196 ?_
          refine ax_aload_0 (pc := 197) C dX7_next_197 ?_
          refine ax_getI (pc := 198) C fX7_102 dX7_next_198 rfl rfl ?_
          refine ax_val C (show _ = nI (tkE b N e) by rw [up_o (by decide)]; exact e14b) ?_
          refine ax_putI (pc := 201) C fX7_120 dX7_next_201 rfl rfl rfl rfl ?_
          exact ax_vr (pc := 204) C rfl dX7_next_204 (by rw [mx_st, ee, hpT, ← hE, hK]; exact mx_c.symm)
        · have h157 : ¬ (tkE b N e) - (tkS b N e) ≤ 3 := fun z => h157 (nI_le (b := 3) z (by decide))
          rw [if_neg h157] at hK
          refine ax_iconst (pc := 160) (v := 0) C dX7_next_160 (by decide) ?_
          refine ax_goto (pc := 161) (tgt := 165) C dX7_next_161 (by decide) ?_
          refine ax_putI (pc := 165) C fX7_111 dX7_next_165 rfl rfl rfl rfl ?_
          refine ax_goto (pc := 168) (tgt := 196) C dX7_next_168 (by decide) ?_
          refine ax_aload_0 (pc := 196) C dX7_next_196 ?_
          refine ax_aload_0 (pc := 197) C dX7_next_197 ?_
          refine ax_getI (pc := 198) C fX7_102 dX7_next_198 rfl rfl ?_
          refine ax_val C (show _ = nI (tkE b N e) by rw [up_o (by decide)]; exact e14b) ?_
          refine ax_putI (pc := 201) C fX7_120 dX7_next_201 rfl rfl rfl rfl ?_
          exact ax_vr (pc := 204) C rfl dX7_next_204 (by rw [mx_st, ee, hpT, ← hE, hK]; exact mx_c.symm)
      · have h130 := ax_bne h130
        refine ax_aload_0 (pc := 133) C dX7_next_133 ?_
        refine ax_dup (pc := 134) C dX7_next_134 rfl ?_
        refine ax_getI (pc := 135) C fX7_102 dX7_next_135 rfl rfl ?_
        refine ax_val C e14 ?_
        refine ax_iconst (pc := 138) (v := 1) C dX7_next_138 (by decide) ?_
        refine ax_iadd (pc := 139) C dX7_next_139 ?_
        refine ax_val C (nI_1 p) ?_
        refine ax_putI (pc := 140) C fX7_102 dX7_next_140 rfl rfl rfl rfl ?_
        refine ax_goto (pc := 143) (tgt := 119) C dX7_next_143 (by decide) ?_
        have hw := bA_f.mp h130
        refine ax_Seq (by rw [ee, up_up]) (ih (p + 1) _ rfl (by omega) (by rw [← hT, LX_s hw.1 hw.2]) (by omega) hE hK)
  have tail : ax_S x Y ad 0 0 (ax_Q x Y ad none 96 (ax_g Y ad (mx_st σ (tkS b N e) (tkE b N e) (tkK b N e))) 0 0) (ax_up σ 77 14 (nI (tkS b N e))) 39 [some (.ref (ad 77)), none] [] := by
    refine ax_aload_0 (pc := 39) C dX7_next_39 ?_
    refine ax_aload_0 (pc := 40) C dX7_next_40 ?_
    refine ax_getI (pc := 41) C fX7_102 dX7_next_41 rfl rfl ?_
    refine ax_val C up_s ?_
    refine ax_putI (pc := 44) C fX7_108 dX7_next_44 rfl rfl rfl rfl ?_
    refine ax_aload_0 (pc := 47) C dX7_next_47 ?_
    refine ax_aload_0 (pc := 48) C dX7_next_48 ?_
    refine ax_getI (pc := 49) C fX7_102 dX7_next_49 rfl rfl ?_
    refine ax_val C (show _ = nI (tkS b N e) by rw [up_o (by decide), up_s]) ?_
    refine ax_callVi (pc := 52) C (w_X7_byteAt F (m := N) (i := (tkS b N e)) (by simp (disch := decide) only [up_o]; exact hN) h400 (by omega)) kX7_byteAt mX7_105 dX7_next_52 (by decide) rfl rfl rfl rfl rfl (Nat.le_of_ble_eq_true rfl) rfl ⟨Nat.le_refl _, Nat.le_refl _⟩ ?_
    refine ax_val C (show _ = bA b N (tkS b N e) by simp (disch := decide) only [up_ne]; rw [hb]; rfl) ?_
    refine ax_istore_1 (pc := 55) C dX7_next_55 rfl ?_
    refine ax_iload_1 (pc := 56) C dX7_next_56 ?_
    refine ax_ldc (pc := 57) C dX7_next_57 qX7_101 ?_
    refine ax_icmp_ne (pc := 59) (tgt := 70) C dX7_next_59 (by decide) (fun h59 => ?_) (fun h59 => ?_)
    · have hNS : ¬ N ≤ (tkS b N e) := fun z => h59 (if_neg (Nat.not_lt.mpr z))
      refine ax_iload_1 (pc := 70) C dX7_next_70 ?_
      refine ax_callSi (pc := 71) C (w_X7_isLetter F) kX7_isLetter mX7_114 dX7_next_71 (by decide) rfl rfl (Nat.le_of_ble_eq_true rfl) rfl ⟨Nat.le_refl _, Nat.le_refl _⟩ ?_
      refine ax_if_eq (pc := 74) (tgt := 112) C dX7_next_74 (by decide) (fun h74 => ?_) (fun h74 => ?_)
      · have h74 := ax_beq h74
        have hl : ¬ isL b (tkS b N e) = true := fun z => h74 (bA_l.mpr ⟨Nat.lt_of_not_le hNS, z⟩)
        refine ax_iload_1 (pc := 112) C dX7_next_112 ?_
        refine ax_callSi (pc := 113) C (w_X7_isFigure F) kX7_isFigure mX7_117 dX7_next_113 (by decide) rfl rfl (Nat.le_of_ble_eq_true rfl) rfl ⟨Nat.le_refl _, Nat.le_refl _⟩ ?_
        refine ax_if_eq (pc := 116) (tgt := 171) C dX7_next_116 (by decide) (fun h116 => ?_) (fun h116 => ?_)
        · have h116 := ax_beq h116
          have hf : ¬ isF b (tkS b N e) = true := fun z => h116 (bA_f.mpr ⟨Nat.lt_of_not_le hNS, z⟩)
          have hE : (tkE b N e) = (tkS b N e) + 1 := by rw [tkE, if_neg hNS, if_neg hl, if_neg hf]
          refine ax_aload_0 (pc := 171) C dX7_next_171 ?_
          refine ax_dup (pc := 172) C dX7_next_172 rfl ?_
          refine ax_getI (pc := 173) C fX7_102 dX7_next_173 rfl rfl ?_
          refine ax_val C (show _ = nI (tkS b N e) by rw [up_o (by decide), up_s]) ?_
          refine ax_iconst (pc := 176) (v := 1) C dX7_next_176 (by decide) ?_
          refine ax_iadd (pc := 177) C dX7_next_177 ?_
          refine ax_val C (nI_1 (tkS b N e)) ?_
          refine ax_putI (pc := 178) C fX7_102 dX7_next_178 rfl rfl rfl rfl ?_
          refine ax_aload_0 (pc := 181) C dX7_next_181 ?_
          refine ax_iload_1 (pc := 182) C dX7_next_182 ?_
          refine ax_bipush (pc := 183) (v := 59) C dX7_next_183 (by decide) ?_
          refine ax_icmp_ne (pc := 185) (tgt := 192) C dX7_next_185 (by decide) (fun h185 => ?_) (fun h185 => ?_)
          · have h185 : ¬ b (tkS b N e) = 59 := by rw [bA, if_pos (Nat.lt_of_not_le hNS)] at h185; exact h185
            refine ax_iconst (pc := 192) (v := 0) C dX7_next_192 (by decide) ?_
            refine ax_putI (pc := 193) C fX7_111 dX7_next_193 rfl rfl rfl rfl ?_
            refine ax_aload_0 (pc := 196) C dX7_next_196 ?_
            refine ax_aload_0 (pc := 197) C dX7_next_197 ?_
            refine ax_getI (pc := 198) C fX7_102 dX7_next_198 rfl rfl ?_
            refine ax_val C (show _ = _ by first | exact (show _ = nI ((tkS b N e) + 1) by rw [up_o (by decide), up_s]) | exact (show _ = nI (tkS b N e) by rw [up_o (by decide), up_o (by decide), up_s])) ?_
            refine ax_putI (pc := 201) C fX7_120 dX7_next_201 rfl rfl rfl rfl ?_
            exact ax_vr (pc := 204) C rfl dX7_next_204 (by rw [mx_st, hE]; rw [show (tkK b N e) = 4 by rw [tkK, if_neg hNS, if_neg hl, if_neg hf, if_neg h185]]; exact mx_c.symm)
          · have h185 : b (tkS b N e) = 59 := by rw [bA, if_pos (Nat.lt_of_not_le hNS)] at h185; exact h185
            refine ax_iconst (pc := 188) (v := 4) C dX7_next_188 (by decide) ?_
            refine ax_goto (pc := 189) (tgt := 193) C dX7_next_189 (by decide) ?_
            refine ax_putI (pc := 193) C fX7_111 dX7_next_193 rfl rfl rfl rfl ?_
            refine ax_aload_0 (pc := 196) C dX7_next_196 ?_
            refine ax_aload_0 (pc := 197) C dX7_next_197 ?_
            refine ax_getI (pc := 198) C fX7_102 dX7_next_198 rfl rfl ?_
            refine ax_val C (show _ = _ by first | exact (show _ = nI ((tkS b N e) + 1) by rw [up_o (by decide), up_s]) | exact (show _ = nI (tkS b N e) by rw [up_o (by decide), up_o (by decide), up_s])) ?_
            refine ax_putI (pc := 201) C fX7_120 dX7_next_201 rfl rfl rfl rfl ?_
            exact ax_vr (pc := 204) C rfl dX7_next_204 (by rw [mx_st, hE]; rw [show (tkK b N e) = 3 by rw [tkK, if_neg hNS, if_neg hl, if_neg hf, if_pos h185]]; exact mx_c.symm)
        · have h116 := ax_bne h116
          have hf : isF b (tkS b N e) = true := (bA_f.mp h116).2
          have hE : (tkE b N e) = LX (isF b) N (tkS b N e) := by rw [tkE, if_neg hNS, if_neg hl, if_pos hf]
          refine l3 (N + 1) (tkS b N e) _ (up_id (by rw [up_o (by decide), up_s])).symm hSN rfl (by omega) hE (by rw [hE, tkK, if_neg hNS, if_neg hl, if_pos hf])
      · have h74 := ax_bne h74
        have hl : isL b (tkS b N e) = true := (bA_l.mp h74).2
        refine l2 (N + 1) (tkS b N e) _ (up_id (by rw [up_o (by decide), up_s])).symm hSN rfl (by omega) (by rw [tkE, if_neg hNS, if_pos hl]) (by rw [tkK, if_neg hNS, if_pos hl])
    · have hNS : N ≤ (tkS b N e) := Nat.le_of_not_lt (fun z => hb0 (tkS b N e) z (by rw [bA, if_pos z] at h59; exact h59))
      refine ax_aload_0 (pc := 62) C dX7_next_62 ?_
      refine ax_iconst (pc := 63) (v := 1) C dX7_next_63 (by decide) ?_
      refine ax_putI (pc := 64) C fX7_111 dX7_next_64 rfl rfl rfl rfl ?_
      refine ax_goto (pc := 67) (tgt := 196) C dX7_next_67 (by decide) ?_
      refine ax_aload_0 (pc := 196) C dX7_next_196 ?_
      refine ax_aload_0 (pc := 197) C dX7_next_197 ?_
      refine ax_getI (pc := 198) C fX7_102 dX7_next_198 rfl rfl ?_
      refine ax_val C (show _ = _ by first | exact (show _ = nI ((tkS b N e) + 1) by rw [up_o (by decide), up_s]) | exact (show _ = nI (tkS b N e) by rw [up_o (by decide), up_o (by decide), up_s])) ?_
      refine ax_putI (pc := 201) C fX7_120 dX7_next_201 rfl rfl rfl rfl ?_
      exact ax_vr (pc := 204) C rfl dX7_next_204 (by rw [mx_st, show (tkE b N e) = (tkS b N e) by rw [tkE, if_pos hNS], show (tkK b N e) = 0 by rw [tkK, if_pos hNS]]; rfl)
  have loop : ∀ (q : Nat) (p : Nat) (τ : ax_Z), τ = ax_up σ 77 14 (nI p) → p ≤ N → LX (isW b) N p = (tkS b N e) → N < p + q → ax_S x Y ad 0 0 (ax_Q x Y ad none 96 (ax_g Y ad (mx_st σ (tkS b N e) (tkE b N e) (tkK b N e))) 0 0) τ 0 [some (.ref (ad 77)), none] [] := by
    intro q
    induction q with
    | zero => intro p τ ee h1 hT h2; exfalso; omega
    | succ q ih =>
      intro p τ ee h1 hT h2
      have e14 : τ 77 14 = nI p := by rw [ee, up_s]
      have e13 : τ 77 13 = nI N := by rw [ee]; simp (disch := decide) only [up_o]; exact hN
      have e84 : τ 84 = b := by rw [ee]; simp (disch := decide) only [up_ne]; exact hb
      refine ax_aload_0 (pc := 0) C dX7_next_0 ?_
      refine ax_aload_0 (pc := 1) C dX7_next_1 ?_
      refine ax_getI (pc := 2) C fX7_102 dX7_next_2 rfl rfl ?_
      refine ax_val C e14 ?_
      refine ax_callVi (pc := 5) C (w_X7_byteAt F (m := N) (i := p) e13 h400 (by omega)) kX7_byteAt mX7_105 dX7_next_5 (by decide) rfl rfl rfl rfl rfl (Nat.le_of_ble_eq_true rfl) rfl ⟨Nat.le_refl _, Nat.le_refl _⟩ ?_
      refine ax_val C (show _ = bA b N p by rw [e84]; rfl) ?_
      refine ax_bipush (pc := 8) (v := 32) C dX7_next_8 (by decide) ?_
      refine ax_icmp_eq (pc := 10) (tgt := 26) C dX7_next_10 (by decide) (fun h10 => ?_) (fun h10 => ?_)
      · refine ax_aload_0 (pc := 26) C dX7_next_26 ?_
        refine ax_dup (pc := 27) C dX7_next_27 rfl ?_
        refine ax_getI (pc := 28) C fX7_102 dX7_next_28 rfl rfl ?_
        refine ax_val C e14 ?_
        refine ax_iconst (pc := 31) (v := 1) C dX7_next_31 (by decide) ?_
        refine ax_iadd (pc := 32) C dX7_next_32 ?_
        refine ax_val C (nI_1 p) ?_
        refine ax_putI (pc := 33) C fX7_102 dX7_next_33 rfl rfl rfl rfl ?_
        refine ax_goto (pc := 36) (tgt := 0) C dX7_next_36 (by decide) ?_
        have hw := bA_w.mp (Or.inl h10)
        refine ax_Seq (by rw [ee, up_up]) (ih (p + 1) _ rfl (by omega) (by rw [← hT, LX_s hw.1 hw.2]) (by omega))
      · refine ax_aload_0 (pc := 13) C dX7_next_13 ?_
        refine ax_aload_0 (pc := 14) C dX7_next_14 ?_
        refine ax_getI (pc := 15) C fX7_102 dX7_next_15 rfl rfl ?_
        refine ax_val C e14 ?_
        refine ax_callVi (pc := 18) C (w_X7_byteAt F (m := N) (i := p) e13 h400 (by omega)) kX7_byteAt mX7_105 dX7_next_18 (by decide) rfl rfl rfl rfl rfl (Nat.le_of_ble_eq_true rfl) rfl ⟨Nat.le_refl _, Nat.le_refl _⟩ ?_
        refine ax_val C (show _ = bA b N p by rw [e84]; rfl) ?_
        refine ax_bipush (pc := 21) (v := 10) C dX7_next_21 (by decide) ?_
        refine ax_icmp_ne (pc := 23) (tgt := 39) C dX7_next_23 (by decide) (fun h23 => ?_) (fun h23 => ?_)
        · have hpS : p = (tkS b N e) := by
            rw [← hT, LX_e (fun z => by
              rcases bA_w.mpr z with z | z
              · exact h10 z
              · exact h23 z)]
          rw [hpS] at ee
          rw [ee]
          exact tail
        · refine ax_aload_0 (pc := 26) C dX7_next_26 ?_
          refine ax_dup (pc := 27) C dX7_next_27 rfl ?_
          refine ax_getI (pc := 28) C fX7_102 dX7_next_28 rfl rfl ?_
          refine ax_val C e14 ?_
          refine ax_iconst (pc := 31) (v := 1) C dX7_next_31 (by decide) ?_
          refine ax_iadd (pc := 32) C dX7_next_32 ?_
          refine ax_val C (nI_1 p) ?_
          refine ax_putI (pc := 33) C fX7_102 dX7_next_33 rfl rfl rfl rfl ?_
          refine ax_goto (pc := 36) (tgt := 0) C dX7_next_36 (by decide) ?_
          have hw := bA_w.mp (Or.inr h23)
          refine ax_Seq (by rw [ee, up_up]) (ih (p + 1) _ rfl (by omega) (by rw [← hT, LX_s hw.1 hw.2]) (by omega))
  exact loop (N + 1) e σ (up_id he).symm heN rfl (by omega)
