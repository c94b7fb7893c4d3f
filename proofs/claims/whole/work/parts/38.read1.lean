/-- is the token from s to e text k -/
def wd (b : Nat → Int32) (s e k : Nat) : Bool := decide (e - s = (tx_b k).length) && hs_all (fun j => decide (b (s + j) = (tx_b k).getD j 0)) (tx_b k).length
/-- the kind that is named; 0: none -/
def wd_k (b : Nat → Int32) (K s e : Nat) : Nat := if K = 1 then (if wd b s e 2 = true then 1 else if wd b s e 3 = true then 2 else if wd b s e 4 = true then 3 else if wd b s e 5 = true then 4 else if wd b s e 6 = true then 5 else 0) else 0
theorem st_e1 {σ : ax_Z} {s e : Int32} {k : Int32} : ax_up (ax_up (ax_up σ 2 4 s) 2 5 e) 2 3 k = ax_up (ax_up (ax_up (ax_up σ 2 4 s) 2 5 e) 2 3 k) 2 6 (σ 2 6) := by
  refine (up_id ?_).symm
  simp (disch := decide) only [up_o]
theorem st_e2 {σ : ax_Z} {s e e2 : Int32} {k v : Int32} : ax_up (ax_up (ax_up (ax_up (ax_up σ 2 4 s) 2 5 e) 2 6 v) 2 5 e2) 2 3 k = ax_up (ax_up (ax_up (ax_up σ 2 4 s) 2 5 e2) 2 3 k) 2 6 v := by
  funext x y
  simp only [ax_up]
  by_cases h : x = 2
  · by_cases h3 : y = 3
    · simp [h, h3]
    · by_cases h5 : y = 5
      · simp [h, h5]
      · by_cases h6 : y = 6
        · simp [h, h6]
        · simp [h3, h5, h6]
  · simp [h]
/-- a number is read: the state behind it -/
def rn_S (σ : ax_Z) (N e : Nat) (most : Int32) : ax_Z := if tkK (σ 3) N e = 2 then (if tkV (σ 3) N e (σ 2 6) ≤ most then rd_go σ N e else ax_up (rd_go σ N e) 2 7 2) else ax_up (rd_go σ N e) 2 7 1
def rn_ok (b : Nat → Int32) (N e : Nat) (v most : Int32) : Prop := tkK b N e = 2 ∧ tkV b N e v ≤ most
def rs_S (σ : ax_Z) (N e : Nat) : ax_Z := if tkK (σ 3) N e = 3 then rd_go σ N e else ax_up (rd_go σ N e) 2 7 1
theorem tkK_lt {b : Nat → Int32} {N e : Nat} : tkK b N e < 5 := by
  unfold tkK
  split
  · decide
  · split
    · decide
    · split
      · split <;> decide
      · split <;> decide

set_option maxRecDepth 20000 in
set_option maxHeartbeats 4000000 in
theorem w_X4_step {Y : ax_Y} {ad : Nat → Nat} (F : ax_F Y) {l : Launch} {σ : ax_Z} {N : Nat} (hN : σ 2 1 = nI N) (h400 : N ≤ 400) {e : Nat} (he : σ 2 5 = nI e) (heN : e ≤ N) : ax_m Y ad l iX4_step 2 σ [.ref (ad 2)] none (rd_go σ N e) := by
  refine ax_m.of F kX4_step.1 [some (.ref (ad 2))] rfl (Nat.le_of_ble_eq_true rfl) (fun x C => ?_)
  have hSle : (tkS (σ 3) N e) ≤ N := LX_le heN
  have f4 : (ax_up (ax_up σ 2 4 (nI (tkS (σ 3) N e))) 2 5 (nI (tkS (σ 3) N e))) 2 4 = nI (tkS (σ 3) N e) := by rw [up_o (by decide), up_s]
  have f1 : (ax_up (ax_up σ 2 4 (nI (tkS (σ 3) N e))) 2 5 (nI (tkS (σ 3) N e))) 2 1 = nI N := by rw [up_o (by decide), up_o (by decide)]; exact hN
  have f3 : (ax_up (ax_up σ 2 4 (nI (tkS (σ 3) N e))) 2 5 (nI (tkS (σ 3) N e))) 3 = σ 3 := by rw [up_ne (by decide), up_ne (by decide)]
  have tail : ax_S x Y ad 0 0 (ax_Q x Y ad none 96 (ax_g Y ad (rd_go σ N e)) 0 0) (ax_up σ 2 4 (nI (tkS (σ 3) N e))) 60 [some (.ref (ad 2))] [] := by
    refine ax_aload_0 (pc := 60) C dX4_step_60 ?_
    refine ax_aload_0 (pc := 61) C dX4_step_61 ?_
    refine ax_getI (pc := 62) C fX4_102 dX4_step_62 rfl rfl ?_
    refine ax_val C up_s ?_
    refine ax_putI (pc := 65) C fX4_30 dX4_step_65 rfl rfl rfl rfl ?_
    refine ax_aload_0 (pc := 68) C dX4_step_68 ?_
    refine ax_getI (pc := 69) C fX4_102 dX4_step_69 rfl rfl ?_
    refine ax_val C f4 ?_
    refine ax_aload_0 (pc := 72) C dX4_step_72 ?_
    refine ax_getI (pc := 73) C fX4_105 dX4_step_73 rfl rfl ?_
    refine ax_val C f1 ?_
    refine ax_icmp_lt (pc := 76) (tgt := 87) C dX4_step_76 (by decide) (fun h76 => ?_) (fun h76 => ?_)
    · have hSN : (tkS (σ 3) N e) < N := (nI_ltI (by omega) (by omega)).mp h76
      refine ax_aload_0 (pc := 87) C dX4_step_87 ?_
      refine ax_aload_0 (pc := 88) C dX4_step_88 ?_
      refine ax_getI (pc := 89) C fX4_102 dX4_step_89 rfl rfl ?_
      refine ax_val C f4 ?_
      refine ax_callVi (pc := 92) C (w_X4_isLetter F (by omega)) kX4_isLetter mX4_108 dX4_step_92 (by decide) rfl rfl rfl rfl rfl (Nat.le_of_ble_eq_true rfl) rfl ⟨Nat.le_refl _, Nat.le_refl _⟩ ?_
      refine ax_if_eq (pc := 95) (tgt := 105) C dX4_step_95 (by decide) (fun h95 => ?_) (fun h95 => ?_)
      · have h95 := ax_beq h95
        rw [f3] at h95
        refine ax_aload_0 (pc := 105) C dX4_step_105 ?_
        refine ax_aload_0 (pc := 106) C dX4_step_106 ?_
        refine ax_getI (pc := 107) C fX4_102 dX4_step_107 rfl rfl ?_
        refine ax_val C f4 ?_
        refine ax_callVi (pc := 110) C (w_X4_isFigure F (by omega)) kX4_isFigure mX4_114 dX4_step_110 (by decide) rfl rfl rfl rfl rfl (Nat.le_of_ble_eq_true rfl) rfl ⟨Nat.le_refl _, Nat.le_refl _⟩ ?_
        refine ax_if_eq (pc := 113) (tgt := 123) C dX4_step_113 (by decide) (fun h113 => ?_) (fun h113 => ?_)
        · have h113 := ax_beq h113
          rw [f3] at h113
          refine ax_aload_0 (pc := 123) C dX4_step_123 ?_
          refine ax_dup (pc := 124) C dX4_step_124 rfl ?_
          refine ax_getI (pc := 125) C fX4_30 dX4_step_125 rfl rfl ?_
          refine ax_val C up_s ?_
          refine ax_iconst (pc := 128) (v := 1) C dX4_step_128 (by decide) ?_
          refine ax_iadd (pc := 129) C dX4_step_129 ?_
          refine ax_val C (nI_1 (tkS (σ 3) N e)) ?_
          refine ax_putI (pc := 130) C fX4_30 dX4_step_130 rfl rfl rfl rfl ?_
          refine ax_aload_0 (pc := 133) C dX4_step_133 ?_
          refine ax_aload_0 (pc := 134) C dX4_step_134 ?_
          refine ax_getR (pc := 135) C fX4_9 dX4_step_135 rfl rfl ?_
          refine ax_aload_0 (pc := 138) C dX4_step_138 ?_
          refine ax_getI (pc := 139) C fX4_102 dX4_step_139 rfl rfl ?_
          refine ax_val C (show _ = nI (tkS (σ 3) N e) by rw [up_o (by decide)]; exact f4) ?_
          refine ax_bal (pc := 142) C dX4_step_142 rfl (by omega) (by decide) ?_
          refine ax_val C (show _ = σ 3 (tkS (σ 3) N e) by simp (disch := decide) only [up_ne]) ?_
          refine ax_bipush (pc := 143) (v := 59) C dX4_step_143 (by decide) ?_
          refine ax_icmp_ne (pc := 145) (tgt := 152) C dX4_step_145 (by decide) (fun h145 => ?_) (fun h145 => ?_)
          · refine ax_iconst (pc := 152) (v := 4) C dX4_step_152 (by decide) ?_
            refine ax_putI (pc := 153) C fX4_43 dX4_step_153 rfl rfl rfl rfl ?_
            exact ax_vr (pc := 156) C rfl dX4_step_156 (by simp only [rd_go, rd_st, tkE, tkK, tkV, if_true, if_false, Bool.false_eq_true, f3, show ¬ N ≤ (tkS (σ 3) N e) from Nat.not_le.mpr hSN, h95, h113, h145, up_up]; exact st_e1.symm)
          · refine ax_iconst (pc := 148) (v := 3) C dX4_step_148 (by decide) ?_
            refine ax_goto (pc := 149) (tgt := 153) C dX4_step_149 (by decide) ?_
            refine ax_putI (pc := 153) C fX4_43 dX4_step_153 rfl rfl rfl rfl ?_
            exact ax_vr (pc := 156) C rfl dX4_step_156 (by simp only [rd_go, rd_st, tkE, tkK, tkV, if_true, if_false, Bool.false_eq_true, f3, show ¬ N ≤ (tkS (σ 3) N e) from Nat.not_le.mpr hSN, h95, h113, h145, up_up]; exact st_e1.symm)
        · have h113 := ax_bne h113
          rw [f3] at h113
          refine ax_aload_0 (pc := 116) C dX4_step_116 ?_
          refine ax_callVv (pc := 117) C (w_X4_stepNumber F (N := N) (s := (tkS (σ 3) N e)) (by rw [up_o (by decide), up_o (by decide)]; exact hN) h400 (by rw [up_o (by decide), up_s]) up_s (by omega)) kX4_stepNumber mX4_117 dX4_step_117 (by decide) rfl rfl rfl rfl rfl (Nat.le_of_ble_eq_true rfl) rfl ⟨Nat.le_refl _, Nat.le_refl _⟩ ?_
          refine ax_goto (pc := 120) (tgt := 156) C dX4_step_120 (by decide) ?_
          exact ax_vr (pc := 156) C rfl dX4_step_156 (by simp only [rd_go, rd_st, tkE, tkK, tkV, if_true, if_false, Bool.false_eq_true, f3, show ¬ N ≤ (tkS (σ 3) N e) from Nat.not_le.mpr hSN, h95, h113]; exact st_e2.symm)
      · have h95 := ax_bne h95
        rw [f3] at h95
        refine ax_aload_0 (pc := 98) C dX4_step_98 ?_
        refine ax_callVv (pc := 99) C (w_X4_stepName F (N := N) (p := (tkS (σ 3) N e)) (by rw [up_o (by decide), up_o (by decide)]; exact hN) h400 up_s (by omega)) kX4_stepName mX4_111 dX4_step_99 (by decide) rfl rfl rfl rfl rfl (Nat.le_of_ble_eq_true rfl) rfl ⟨Nat.le_refl _, Nat.le_refl _⟩ ?_
        refine ax_goto (pc := 102) (tgt := 156) C dX4_step_102 (by decide) ?_
        exact ax_vr (pc := 156) C rfl dX4_step_156 (by simp only [rd_go, rd_st, tkE, tkK, tkV, if_true, if_false, Bool.false_eq_true, f3, show ¬ N ≤ (tkS (σ 3) N e) from Nat.not_le.mpr hSN, h95, up_up]; exact st_e1.symm)
    · have hSN : ¬ (tkS (σ 3) N e) < N := fun z => h76 (nI_lt z (by omega))
      refine ax_aload_0 (pc := 79) C dX4_step_79 ?_
      refine ax_iconst (pc := 80) (v := 0) C dX4_step_80 (by decide) ?_
      refine ax_putI (pc := 81) C fX4_43 dX4_step_81 rfl rfl rfl rfl ?_
      refine ax_goto (pc := 84) (tgt := 156) C dX4_step_84 (by decide) ?_
      exact ax_vr (pc := 156) C rfl dX4_step_156 (by simp only [rd_go, rd_st, tkE, tkK, tkV, if_true, if_false, Bool.false_eq_true, f3, show N ≤ (tkS (σ 3) N e) from Nat.le_of_not_lt hSN]; exact st_e1.symm)
  have loop : ∀ (q : Nat) (p : Nat) (τ : ax_Z), τ = ax_up σ 2 4 (nI p) → p ≤ N → LX (isW (σ 3)) N p = (tkS (σ 3) N e) → N < p + q → ax_S x Y ad 0 0 (ax_Q x Y ad none 96 (ax_g Y ad (rd_go σ N e)) 0 0) τ 8 [some (.ref (ad 2))] [] := by
    intro q
    induction q with
    | zero => intro p τ ee h1 hT h2; exfalso; omega
    | succ q ih =>
      intro p τ ee h1 hT h2
      have e4 : τ 2 4 = nI p := by rw [ee, up_s]
      have e1 : τ 2 1 = nI N := by rw [ee, up_o (by decide)]; exact hN
      have e3 : τ 3 = σ 3 := by rw [ee, up_ne (by decide)]
      refine ax_aload_0 (pc := 8) C dX4_step_8 ?_
      refine ax_getI (pc := 9) C fX4_102 dX4_step_9 rfl rfl ?_
      refine ax_val C e4 ?_
      refine ax_aload_0 (pc := 12) C dX4_step_12 ?_
      refine ax_getI (pc := 13) C fX4_105 dX4_step_13 rfl rfl ?_
      refine ax_val C e1 ?_
      refine ax_icmp_ge (pc := 16) (tgt := 60) C dX4_step_16 (by decide) (fun h16 => ?_) (fun h16 => ?_)
      · have hq : ¬ p < N := fun z => nI_ge z (by omega) h16
        have hpS : p = (tkS (σ 3) N e) := by rw [← hT, LX_e (fun z => hq z.1)]
        rw [hpS] at ee
        rw [ee]
        exact tail
      · have hq : p < N := Nat.lt_of_not_le (fun z => h16 (nI_le z (by omega)))
        refine ax_aload_0 (pc := 19) C dX4_step_19 ?_
        refine ax_getR (pc := 20) C fX4_9 dX4_step_20 rfl rfl ?_
        refine ax_aload_0 (pc := 23) C dX4_step_23 ?_
        refine ax_getI (pc := 24) C fX4_102 dX4_step_24 rfl rfl ?_
        refine ax_val C e4 ?_
        refine ax_bal (pc := 27) C dX4_step_27 rfl (by omega) (by decide) ?_
        refine ax_val C (congrFun e3 _) ?_
        refine ax_bipush (pc := 28) (v := 32) C dX4_step_28 (by decide) ?_
        refine ax_icmp_eq (pc := 30) (tgt := 47) C dX4_step_30 (by decide) (fun h30 => ?_) (fun h30 => ?_)
        · refine ax_aload_0 (pc := 47) C dX4_step_47 ?_
          refine ax_dup (pc := 48) C dX4_step_48 rfl ?_
          refine ax_getI (pc := 49) C fX4_102 dX4_step_49 rfl rfl ?_
          refine ax_val C e4 ?_
          refine ax_iconst (pc := 52) (v := 1) C dX4_step_52 (by decide) ?_
          refine ax_iadd (pc := 53) C dX4_step_53 ?_
          refine ax_val C (nI_1 p) ?_
          refine ax_putI (pc := 54) C fX4_102 dX4_step_54 rfl rfl rfl rfl ?_
          refine ax_goto (pc := 57) (tgt := 8) C dX4_step_57 (by decide) ?_
          refine ax_Seq (by rw [ee, up_up]) (ih (p + 1) _ rfl (by omega) (by rw [← hT, LX_s hq (by simp [isW, h30])]) (by omega))
        · refine ax_aload_0 (pc := 33) C dX4_step_33 ?_
          refine ax_getR (pc := 34) C fX4_9 dX4_step_34 rfl rfl ?_
          refine ax_aload_0 (pc := 37) C dX4_step_37 ?_
          refine ax_getI (pc := 38) C fX4_102 dX4_step_38 rfl rfl ?_
          refine ax_val C e4 ?_
          refine ax_bal (pc := 41) C dX4_step_41 rfl (by omega) (by decide) ?_
          refine ax_val C (congrFun e3 _) ?_
          refine ax_bipush (pc := 42) (v := 10) C dX4_step_42 (by decide) ?_
          refine ax_icmp_ne (pc := 44) (tgt := 60) C dX4_step_44 (by decide) (fun h44 => ?_) (fun h44 => ?_)
          · have hpS : p = (tkS (σ 3) N e) := by rw [← hT, LX_e (fun z => absurd z.2 (by simp [isW, h30, h44]))]
            rw [hpS] at ee
            rw [ee]
            exact tail
          · refine ax_aload_0 (pc := 47) C dX4_step_47 ?_
            refine ax_dup (pc := 48) C dX4_step_48 rfl ?_
            refine ax_getI (pc := 49) C fX4_102 dX4_step_49 rfl rfl ?_
            refine ax_val C e4 ?_
            refine ax_iconst (pc := 52) (v := 1) C dX4_step_52 (by decide) ?_
            refine ax_iadd (pc := 53) C dX4_step_53 ?_
            refine ax_val C (nI_1 p) ?_
            refine ax_putI (pc := 54) C fX4_102 dX4_step_54 rfl rfl rfl rfl ?_
            refine ax_goto (pc := 57) (tgt := 8) C dX4_step_57 (by decide) ?_
            refine ax_Seq (by rw [ee, up_up]) (ih (p + 1) _ rfl (by omega) (by rw [← hT, LX_s hq (by simp [isW, h44])]) (by omega))
  refine ax_aload_0 (pc := 0) C dX4_step_0 ?_
  refine ax_aload_0 (pc := 1) C dX4_step_1 ?_
  refine ax_getI (pc := 2) C fX4_30 dX4_step_2 rfl rfl ?_
  refine ax_val C he ?_
  refine ax_putI (pc := 5) C fX4_102 dX4_step_5 rfl rfl rfl rfl ?_
  exact loop (N + 1) e _ rfl heN rfl (by omega)

set_option maxRecDepth 20000 in
set_option maxHeartbeats 4000000 in
theorem w_X4_isWord {Y : ax_Y} {ad : Nat → Nat} (F : ax_F Y) {l : Launch} {σ : ax_Z} {k a v : Nat} (hg : ax_Sg Y k a v) (hk : k < 7) {K s e : Nat} (hK : σ 2 3 = nI K) (hK5 : K < 5) (hs : σ 2 4 = nI s) (he : σ 2 5 = nI e) (hse : s ≤ e) (h400 : e ≤ 400) : ax_m Y ad l iX4_isWord 4 σ [.ref (ad 2), .ref a] (some (.int (ax_b (K = 1 ∧ wd (σ 3) s e k = true)))) σ := by
  refine ax_m.of F kX4_isWord.1 [some (.ref (ad 2)), some (.ref a), none] rfl (Nat.le_of_ble_eq_true rfl) (fun x C => ?_)
  have htx := tx_ok k hk
  have loop : ∀ (q : Nat) (j : Nat), j ≤ (tx_b k).length → hs_all (fun j => decide (σ 3 (s + j) = (tx_b k).getD j 0)) j = true → K = 1 → e - s = (tx_b k).length → (tx_b k).length < j + q → ax_S x Y ad 0 0 (ax_Q x Y ad (some (.int (ax_b (K = 1 ∧ wd (σ 3) s e k = true)))) 96 (ax_g Y ad σ) 0 0) σ 28 [some (.ref (ad 2)), some (.ref a), some (.int (nI j))] [] := by
    intro q
    induction q with
    | zero => intro j h1 hal hK1 hl h2; exfalso; omega
    | succ q ih =>
      intro j h1 hal hK1 hl h2
      refine ax_iload_2 (pc := 28) C dX4_isWord_28 ?_
      refine ax_aload_1 (pc := 29) C dX4_isWord_29 ?_
      refine ax_callO (pc := 30) C hg.2.1 (w_J0_length_8abf5 F hg htx.1) kJ0_length_8abf5 mX4_120 dX4_isWord_30 (by decide) rfl rfl (Nat.le_of_ble_eq_true rfl) rfl ⟨Nat.le_refl _, Nat.le_refl _⟩ ?_
      refine ax_icmp_ge (pc := 33) (tgt := 63) C dX4_isWord_33 (by decide) (fun h33 => ?_) (fun h33 => ?_)
      · have hj : ¬ j < (tx_b k).length := fun z => nI_ge z (by omega) h33
        refine ax_iconst (pc := 63) (v := 1) C dX4_isWord_63 (by decide) ?_
        exact ax_zr (pc := 64) C rfl rfl dX4_isWord_64 (ax_b1 ⟨hK1, by rw [wd, hl, decide_eq_true rfl, Bool.true_and, show (tx_b k).length = j by omega]; exact hal⟩) rfl
      · have hj : j < (tx_b k).length := Nat.lt_of_not_le (fun z => h33 (nI_le z (by omega)))
        refine ax_aload_0 (pc := 36) C dX4_isWord_36 ?_
        refine ax_getR (pc := 37) C fX4_9 dX4_isWord_37 rfl rfl ?_
        refine ax_aload_0 (pc := 40) C dX4_isWord_40 ?_
        refine ax_getI (pc := 41) C fX4_102 dX4_isWord_41 rfl rfl ?_
        refine ax_val C hs ?_
        refine ax_iload_2 (pc := 44) C dX4_isWord_44 ?_
        refine ax_iadd (pc := 45) C dX4_isWord_45 ?_
        refine ax_val C (nI_add s j) ?_
        refine ax_bal (pc := 46) C dX4_isWord_46 rfl (by omega) (by decide) ?_
        refine ax_aload_1 (pc := 47) C dX4_isWord_47 ?_
        refine ax_iload_2 (pc := 48) C dX4_isWord_48 ?_
        refine ax_callO (pc := 49) C hg.2.1 (w_J0_charAt_5068e F hg hj htx.1 (htx.2 j hj)) kJ0_charAt_5068e mX4_124 dX4_isWord_49 (by decide) rfl rfl (Nat.le_of_ble_eq_true rfl) rfl ⟨Nat.le_refl _, Nat.le_refl _⟩ ?_
        refine ax_icmp_eq (pc := 52) (tgt := 57) C dX4_isWord_52 (by decide) (fun h52 => ?_) (fun h52 => ?_)
        · refine ax_iinc_2 (pc := 57) C dX4_isWord_57 (1) (by decide) rfl ?_
          refine ax_goto (pc := 60) (tgt := 28) C dX4_isWord_60 (by decide) ?_
          refine ax_Leq (by rw [nI_1]) (ih (j + 1) (by omega) (by rw [hs_all, hal]; simp [h52]) hK1 hl (by omega))
        · refine ax_iconst (pc := 55) (v := 0) C dX4_isWord_55 (by decide) ?_
          exact ax_zr (pc := 56) C rfl rfl dX4_isWord_56 (ax_b0 (fun z => by have q := z.2; rw [wd, hs_all_f hj (decide_eq_false h52), Bool.and_false] at q; cases q)) rfl
  refine ax_aload_0 (pc := 0) C dX4_isWord_0 ?_
  refine ax_getI (pc := 1) C fX4_43 dX4_isWord_1 rfl rfl ?_
  refine ax_val C hK ?_
  refine ax_iconst (pc := 4) (v := 1) C dX4_isWord_4 (by decide) ?_
  refine ax_icmp_ne (pc := 5) (tgt := 24) C dX4_isWord_5 (by decide) (fun h5 => ?_) (fun h5 => ?_)
  · have hK1 : ¬ K = 1 := fun z => h5 (by rw [z]; rfl)
    refine ax_iconst (pc := 24) (v := 0) C dX4_isWord_24 (by decide) ?_
    exact ax_zr (pc := 25) C rfl rfl dX4_isWord_25 (ax_b0 (fun z => hK1 z.1)) rfl
  · have hK1 : K = 1 := (nI_eq (b := 1) (by omega) (by decide)).mp h5
    refine ax_aload_0 (pc := 8) C dX4_isWord_8 ?_
    refine ax_getI (pc := 9) C fX4_30 dX4_isWord_9 rfl rfl ?_
    refine ax_val C he ?_
    refine ax_aload_0 (pc := 12) C dX4_isWord_12 ?_
    refine ax_getI (pc := 13) C fX4_102 dX4_isWord_13 rfl rfl ?_
    refine ax_val C hs ?_
    refine ax_isub (pc := 16) C dX4_isWord_16 ?_
    refine ax_val C (pk_sub hse) ?_
    refine ax_aload_1 (pc := 17) C dX4_isWord_17 ?_
    refine ax_callO (pc := 18) C hg.2.1 (w_J0_length_8abf5 F hg htx.1) kJ0_length_8abf5 mX4_120 dX4_isWord_18 (by decide) rfl rfl (Nat.le_of_ble_eq_true rfl) rfl ⟨Nat.le_refl _, Nat.le_refl _⟩ ?_
    refine ax_icmp_eq (pc := 21) (tgt := 26) C dX4_isWord_21 (by decide) (fun h21 => ?_) (fun h21 => ?_)
    · have hl : e - s = (tx_b k).length := (nI_eq (by omega) (by omega)).mp h21
      refine ax_iconst (pc := 26) (v := 0) C dX4_isWord_26 (by decide) ?_
      refine ax_istore_2 (pc := 27) C dX4_isWord_27 rfl ?_
      exact loop ((tx_b k).length + 1) 0 (by omega) rfl hK1 hl (by omega)
    · have hl : ¬ e - s = (tx_b k).length := fun z => h21 (by rw [z])
      refine ax_iconst (pc := 24) (v := 0) C dX4_isWord_24 (by decide) ?_
      exact ax_zr (pc := 25) C rfl rfl dX4_isWord_25 (ax_b0 (fun z => by have := z.2; simp [wd, hl] at this)) rfl

set_option maxRecDepth 20000 in
set_option maxHeartbeats 4000000 in
theorem w_X4_kindNamed {Y : ax_Y} {ad : Nat → Nat} (F : ax_F Y) {l : Launch} {σ : ax_Z} {K s e : Nat} (hK : σ 2 3 = nI K) (hK5 : K < 5) (hs : σ 2 4 = nI s) (he : σ 2 5 = nI e) (hse : s ≤ e) (h400 : e ≤ 400) : ax_m Y ad l iX4_kindNamed 5 σ [.ref (ad 2)] (some (.int (nI (wd_k (σ 3) K s e)))) σ := by
  obtain ⟨a2, v2, hg2⟩ := ax_Sg_2 F
  obtain ⟨a3, v3, hg3⟩ := ax_Sg_3 F
  obtain ⟨a4, v4, hg4⟩ := ax_Sg_4 F
  obtain ⟨a5, v5, hg5⟩ := ax_Sg_5 F
  obtain ⟨a6, v6, hg6⟩ := ax_Sg_6 F
  refine ax_m.of F kX4_kindNamed.1 [some (.ref (ad 2))] rfl (Nat.le_of_ble_eq_true rfl) (fun x C => ?_)
  refine ax_aload_0 (pc := 0) C dX4_kindNamed_0 ?_
  refine ax_ldcs (pc := 1) C (k := 2) hg2 rfl dX4_kindNamed_1 ?_
  refine ax_callVi (pc := 3) C (w_X4_isWord F hg2 (by decide) hK hK5 hs he hse h400) kX4_isWord mX4_54 dX4_kindNamed_3 (by decide) rfl rfl rfl rfl rfl (Nat.le_of_ble_eq_true rfl) rfl ⟨Nat.le_refl _, Nat.le_refl _⟩ ?_
  refine ax_if_eq (pc := 6) (tgt := 11) C dX4_kindNamed_6 (by decide) (fun h6 => ?_) (fun h6 => ?_)
  · have h6 := ax_beq h6
    refine ax_aload_0 (pc := 11) C dX4_kindNamed_11 ?_
    refine ax_ldcs (pc := 12) C (k := 3) hg3 rfl dX4_kindNamed_12 ?_
    refine ax_callVi (pc := 14) C (w_X4_isWord F hg3 (by decide) hK hK5 hs he hse h400) kX4_isWord mX4_54 dX4_kindNamed_14 (by decide) rfl rfl rfl rfl rfl (Nat.le_of_ble_eq_true rfl) rfl ⟨Nat.le_refl _, Nat.le_refl _⟩ ?_
    refine ax_if_eq (pc := 17) (tgt := 22) C dX4_kindNamed_17 (by decide) (fun h17 => ?_) (fun h17 => ?_)
    · have h17 := ax_beq h17
      refine ax_aload_0 (pc := 22) C dX4_kindNamed_22 ?_
      refine ax_ldcs (pc := 23) C (k := 4) hg4 rfl dX4_kindNamed_23 ?_
      refine ax_callVi (pc := 25) C (w_X4_isWord F hg4 (by decide) hK hK5 hs he hse h400) kX4_isWord mX4_54 dX4_kindNamed_25 (by decide) rfl rfl rfl rfl rfl (Nat.le_of_ble_eq_true rfl) rfl ⟨Nat.le_refl _, Nat.le_refl _⟩ ?_
      refine ax_if_eq (pc := 28) (tgt := 33) C dX4_kindNamed_28 (by decide) (fun h28 => ?_) (fun h28 => ?_)
      · have h28 := ax_beq h28
        refine ax_aload_0 (pc := 33) C dX4_kindNamed_33 ?_
        refine ax_ldcs (pc := 34) C (k := 5) hg5 rfl dX4_kindNamed_34 ?_
        refine ax_callVi (pc := 36) C (w_X4_isWord F hg5 (by decide) hK hK5 hs he hse h400) kX4_isWord mX4_54 dX4_kindNamed_36 (by decide) rfl rfl rfl rfl rfl (Nat.le_of_ble_eq_true rfl) rfl ⟨Nat.le_refl _, Nat.le_refl _⟩ ?_
        refine ax_if_eq (pc := 39) (tgt := 44) C dX4_kindNamed_39 (by decide) (fun h39 => ?_) (fun h39 => ?_)
        · have h39 := ax_beq h39
          refine ax_aload_0 (pc := 44) C dX4_kindNamed_44 ?_
          refine ax_ldcs (pc := 45) C (k := 6) hg6 rfl dX4_kindNamed_45 ?_
          refine ax_callVi (pc := 47) C (w_X4_isWord F hg6 (by decide) hK hK5 hs he hse h400) kX4_isWord mX4_54 dX4_kindNamed_47 (by decide) rfl rfl rfl rfl rfl (Nat.le_of_ble_eq_true rfl) rfl ⟨Nat.le_refl _, Nat.le_refl _⟩ ?_
          refine ax_if_eq (pc := 50) (tgt := 57) C dX4_kindNamed_50 (by decide) (fun h50 => ?_) (fun h50 => ?_)
          · have h50 := ax_beq h50
            refine ax_iconst (pc := 57) (v := 0) C dX4_kindNamed_57 (by decide) ?_
            exact ax_ir (pc := 58) C rfl dX4_kindNamed_58 (by
                rw [wd_k]
                by_cases hK1 : K = 1
                · rw [if_pos hK1, if_neg (fun z => h6 ⟨hK1, z⟩), if_neg (fun z => h17 ⟨hK1, z⟩), if_neg (fun z => h28 ⟨hK1, z⟩), if_neg (fun z => h39 ⟨hK1, z⟩), if_neg (fun z => h50 ⟨hK1, z⟩)]; rfl
                · rw [if_neg hK1]; rfl) rfl
          · have h50 := ax_bne h50
            refine ax_iconst (pc := 53) (v := 5) C dX4_kindNamed_53 (by decide) ?_
            refine ax_goto (pc := 54) (tgt := 58) C dX4_kindNamed_54 (by decide) ?_
            exact ax_ir (pc := 58) C rfl dX4_kindNamed_58 (by rw [wd_k, if_pos h50.1, if_neg (show ¬ wd (σ 3) s e 2 = true from fun z => h6 ⟨h50.1, z⟩), if_neg (show ¬ wd (σ 3) s e 3 = true from fun z => h17 ⟨h50.1, z⟩), if_neg (show ¬ wd (σ 3) s e 4 = true from fun z => h28 ⟨h50.1, z⟩), if_neg (show ¬ wd (σ 3) s e 5 = true from fun z => h39 ⟨h50.1, z⟩), if_pos h50.2]; rfl) rfl
        · have h39 := ax_bne h39
          refine ax_iconst (pc := 42) (v := 4) C dX4_kindNamed_42 (by decide) ?_
          exact ax_ir (pc := 43) C rfl dX4_kindNamed_43 (by rw [wd_k, if_pos h39.1, if_neg (show ¬ wd (σ 3) s e 2 = true from fun z => h6 ⟨h39.1, z⟩), if_neg (show ¬ wd (σ 3) s e 3 = true from fun z => h17 ⟨h39.1, z⟩), if_neg (show ¬ wd (σ 3) s e 4 = true from fun z => h28 ⟨h39.1, z⟩), if_pos h39.2]; rfl) rfl
      · have h28 := ax_bne h28
        refine ax_iconst (pc := 31) (v := 3) C dX4_kindNamed_31 (by decide) ?_
        exact ax_ir (pc := 32) C rfl dX4_kindNamed_32 (by rw [wd_k, if_pos h28.1, if_neg (show ¬ wd (σ 3) s e 2 = true from fun z => h6 ⟨h28.1, z⟩), if_neg (show ¬ wd (σ 3) s e 3 = true from fun z => h17 ⟨h28.1, z⟩), if_pos h28.2]; rfl) rfl
    · have h17 := ax_bne h17
      refine ax_iconst (pc := 20) (v := 2) C dX4_kindNamed_20 (by decide) ?_
      exact ax_ir (pc := 21) C rfl dX4_kindNamed_21 (by rw [wd_k, if_pos h17.1, if_neg (show ¬ wd (σ 3) s e 2 = true from fun z => h6 ⟨h17.1, z⟩), if_pos h17.2]; rfl) rfl
  · have h6 := ax_bne h6
    refine ax_iconst (pc := 9) (v := 1) C dX4_kindNamed_9 (by decide) ?_
    exact ax_ir (pc := 10) C rfl dX4_kindNamed_10 (by rw [wd_k, if_pos h6.1, if_pos h6.2]; rfl) rfl

set_option maxRecDepth 20000 in
set_option maxHeartbeats 4000000 in
theorem w_X4_fail {Y : ax_Y} {ad : Nat → Nat} (F : ax_F Y) {l : Launch} {σ : ax_Z} {n : Int32} : ax_m Y ad l iX4_fail 0 σ [.ref (ad 2), .int n] (some (.int 0)) (ax_up σ 2 7 n) := by
  refine ax_m.of F kX4_fail.1 [some (.ref (ad 2)), some (.int (n))] rfl (Nat.le_of_ble_eq_true rfl) (fun x C => ?_)
  refine ax_aload_0 (pc := 0) C dX4_fail_0 ?_
  refine ax_iload_1 (pc := 1) C dX4_fail_1 ?_
  refine ax_putI (pc := 2) C fX4_33 dX4_fail_2 rfl rfl rfl rfl ?_
  refine ax_iconst (pc := 5) (v := 0) C dX4_fail_5 (by decide) ?_
  exact ax_zr (pc := 6) C rfl rfl dX4_fail_6 rfl rfl

set_option maxRecDepth 20000 in
set_option maxHeartbeats 4000000 in
theorem w_X4_readNumber {Y : ax_Y} {ad : Nat → Nat} (F : ax_F Y) {l : Launch} {σ : ax_Z} {N : Nat} (hN : σ 2 1 = nI N) (h400 : N ≤ 400) {e : Nat} (he : σ 2 5 = nI e) (heN : e ≤ N) {most : Int32} : ax_m Y ad l iX4_readNumber 3 σ [.ref (ad 2), .int most] (some (.int (ax_b (tkK (σ 3) N e = 2 ∧ tkV (σ 3) N e (σ 2 6) ≤ most)))) (rn_S σ N e most) := by
  refine ax_m.of F kX4_readNumber.1 [some (.ref (ad 2)), some (.int (most))] rfl (Nat.le_of_ble_eq_true rfl) (fun x C => ?_)
  refine ax_aload_0 (pc := 0) C dX4_readNumber_0 ?_
  refine ax_callVv (pc := 1) C (w_X4_step F hN h400 he heN) kX4_step mX4_40 dX4_readNumber_1 (by decide) rfl rfl rfl rfl rfl (Nat.le_of_ble_eq_true rfl) rfl ⟨Nat.le_refl _, Nat.le_refl _⟩ ?_
  refine ax_aload_0 (pc := 4) C dX4_readNumber_4 ?_
  refine ax_getI (pc := 5) C fX4_43 dX4_readNumber_5 rfl rfl ?_
  refine ax_val C rd_st_3 ?_
  refine ax_iconst (pc := 8) (v := 2) C dX4_readNumber_8 (by decide) ?_
  refine ax_icmp_eq (pc := 9) (tgt := 18) C dX4_readNumber_9 (by decide) (fun h9 => ?_) (fun h9 => ?_)
  · have hk : tkK (σ 3) N e = 2 := (nI_eq (b := 2) (by have := @tkK_lt (σ 3) N e; omega) (by decide)).mp h9
    refine ax_aload_0 (pc := 18) C dX4_readNumber_18 ?_
    refine ax_getI (pc := 19) C fX4_68 dX4_readNumber_19 rfl rfl ?_
    refine ax_val C rd_st_6 ?_
    refine ax_iload_1 (pc := 22) C dX4_readNumber_22 ?_
    refine ax_icmp_le (pc := 23) (tgt := 34) C dX4_readNumber_23 (by decide) (fun h23 => ?_) (fun h23 => ?_)
    · refine ax_iconst (pc := 34) (v := 1) C dX4_readNumber_34 (by decide) ?_
      refine ax_goto (pc := 35) (tgt := 39) C dX4_readNumber_35 (by decide) ?_
      exact ax_zr (pc := 39) C rfl rfl dX4_readNumber_39 (ax_b1 ⟨hk, h23⟩) (by rw [rn_S, if_pos hk, if_pos h23])
    · refine ax_aload_0 (pc := 26) C dX4_readNumber_26 ?_
      refine ax_iconst (pc := 27) (v := 2) C dX4_readNumber_27 (by decide) ?_
      refine ax_callVi (pc := 28) C (w_X4_fail F) kX4_fail mX4_58 dX4_readNumber_28 (by decide) rfl rfl rfl rfl rfl (Nat.le_of_ble_eq_true rfl) rfl ⟨Nat.le_refl _, Nat.le_refl _⟩ ?_
      refine ax_if_eq (pc := 31) (tgt := 38) C dX4_readNumber_31 (by decide) (fun _ => ?_) (fun z => False.elim (z rfl))
      refine ax_iconst (pc := 38) (v := 0) C dX4_readNumber_38 (by decide) ?_
      exact ax_zr (pc := 39) C rfl rfl dX4_readNumber_39 (ax_b0 (fun z => h23 z.2)) (by rw [rn_S, if_pos hk, if_neg h23])
  · have hk : ¬ tkK (σ 3) N e = 2 := fun z => h9 (by rw [z]; rfl)
    refine ax_aload_0 (pc := 12) C dX4_readNumber_12 ?_
    refine ax_iconst (pc := 13) (v := 1) C dX4_readNumber_13 (by decide) ?_
    refine ax_callVi (pc := 14) C (w_X4_fail F) kX4_fail mX4_58 dX4_readNumber_14 (by decide) rfl rfl rfl rfl rfl (Nat.le_of_ble_eq_true rfl) rfl ⟨Nat.le_refl _, Nat.le_refl _⟩ ?_
    exact ax_zr (pc := 17) C rfl rfl dX4_readNumber_17 (ax_b0 (fun z => hk z.1)) (by rw [rn_S, if_neg hk])

set_option maxRecDepth 20000 in
set_option maxHeartbeats 4000000 in
theorem w_X4_readSign {Y : ax_Y} {ad : Nat → Nat} (F : ax_F Y) {l : Launch} {σ : ax_Z} {N : Nat} (hN : σ 2 1 = nI N) (h400 : N ≤ 400) {e : Nat} (he : σ 2 5 = nI e) (heN : e ≤ N) : ax_m Y ad l iX4_readSign 3 σ [.ref (ad 2)] (some (.int (ax_b (tkK (σ 3) N e = 3)))) (rs_S σ N e) := by
  refine ax_m.of F kX4_readSign.1 [some (.ref (ad 2))] rfl (Nat.le_of_ble_eq_true rfl) (fun x C => ?_)
  refine ax_aload_0 (pc := 0) C dX4_readSign_0 ?_
  refine ax_callVv (pc := 1) C (w_X4_step F hN h400 he heN) kX4_step mX4_40 dX4_readSign_1 (by decide) rfl rfl rfl rfl rfl (Nat.le_of_ble_eq_true rfl) rfl ⟨Nat.le_refl _, Nat.le_refl _⟩ ?_
  refine ax_aload_0 (pc := 4) C dX4_readSign_4 ?_
  refine ax_getI (pc := 5) C fX4_43 dX4_readSign_5 rfl rfl ?_
  refine ax_val C rd_st_3 ?_
  refine ax_iconst (pc := 8) (v := 3) C dX4_readSign_8 (by decide) ?_
  refine ax_icmp_eq (pc := 9) (tgt := 20) C dX4_readSign_9 (by decide) (fun h9 => ?_) (fun h9 => ?_)
  · have hk : tkK (σ 3) N e = 3 := (nI_eq (b := 3) (by have := @tkK_lt (σ 3) N e; omega) (by decide)).mp h9
    refine ax_iconst (pc := 20) (v := 1) C dX4_readSign_20 (by decide) ?_
    refine ax_goto (pc := 21) (tgt := 25) C dX4_readSign_21 (by decide) ?_
    exact ax_zr (pc := 25) C rfl rfl dX4_readSign_25 (ax_b1 hk) (by rw [rs_S, if_pos hk])
  · have hk : ¬ tkK (σ 3) N e = 3 := fun z => h9 (by rw [z]; rfl)
    refine ax_aload_0 (pc := 12) C dX4_readSign_12 ?_
    refine ax_iconst (pc := 13) (v := 1) C dX4_readSign_13 (by decide) ?_
    refine ax_callVi (pc := 14) C (w_X4_fail F) kX4_fail mX4_58 dX4_readSign_14 (by decide) rfl rfl rfl rfl rfl (Nat.le_of_ble_eq_true rfl) rfl ⟨Nat.le_refl _, Nat.le_refl _⟩ ?_
    refine ax_if_eq (pc := 17) (tgt := 24) C dX4_readSign_17 (by decide) (fun _ => ?_) (fun z => False.elim (z rfl))
    refine ax_iconst (pc := 24) (v := 0) C dX4_readSign_24 (by decide) ?_
    exact ax_zr (pc := 25) C rfl rfl dX4_readSign_25 (ax_b0 hk) (by rw [rs_S, if_neg hk])
