/-! the reference's rest: each cart in turn takes its best patience -/
def mr_i (σ : ax_Z) (n : Nat) : Nat → ax_Z × Bool
  | 0 => (σ, true)
  | c + 1 => (ax_up (mb_S (mr_i σ n c).1 c n) 88 c (nI (mb (mr_i σ n c).1 c n 12).2), (mr_i σ n c).2 && decide (nI (mb (mr_i σ n c).1 c n 12).2 = mb_S (mr_i σ n c).1 c n 88 c))
theorem mr_i1 {σ : ax_Z} {n c : Nat} : ax_up (mb_S (mr_i σ n c).1 c n) 88 c (nI (mb (mr_i σ n c).1 c n 12).2) = (mr_i σ n (c + 1)).1 := by rw [mr_i]
theorem mr_i2 {σ : ax_Z} {n c : Nat} : (mr_i σ n (c + 1)).2 = ((mr_i σ n c).2 && decide (nI (mb (mr_i σ n c).1 c n 12).2 = mb_S (mr_i σ n c).1 c n 88 c)) := by rw [mr_i]
theorem mr_in {σ : ax_Z} {n c : Nat} : (mr_i σ n c).1 77 20 = σ 77 20 := by
  induction c with
  | zero => rw [mr_i]
  | succ c ih => rw [← mr_i1, up_ne (by decide), mb_S_n, ih]
def mr_o (σ : ax_Z) (n : Nat) : Nat → Nat → ax_Z × Int32
  | 0, _ => (σ, -1000000)
  | q + 1, r => if (mr_i σ n n).2 = true then ((mr_i σ n n).1, nI r) else mr_o (mr_i σ n n).1 n q (r + 1)

theorem nI_neR {r : Nat} (h : r < 30) : ¬ nI r = -1000000 := by
  have : ∀ f : Fin 30, ¬ nI f.1 = -1000000 := by decide
  exact this ⟨r, h⟩
set_option maxRecDepth 20000 in
set_option maxHeartbeats 4000000 in
theorem w_X7_rest {Y : ax_Y} {ad : Nat → Nat} (F : ax_F Y) {l : Launch} {σ : ax_Z} {n : Nat} (hn : σ 81 0 = nI n) (h6 : n ≤ 6) {cart : Int32} : ax_m Y ad l iX7_rest 6 σ [.ref (ad 77), .int cart] (some (.int (if (ax_up σ 77 0 0) 77 7 = 0 then -1000002 else if (-1 ≤ cart ∧ cart ≤ nI n - 1) then (if cart < 0 then (mr_o (ly_S (ax_up σ 77 0 0) n n) n 20 1).2 else (mr_o (ly_S (ax_up σ 77 0 0) n n) n 20 1).1 88 cart.toNatClampNeg) else -1000001))) (if (ax_up σ 77 0 0) 77 7 = 0 then (ax_up σ 77 0 0) else if (-1 ≤ cart ∧ cart ≤ nI n - 1) then (mr_o (ly_S (ax_up σ 77 0 0) n n) n 20 1).1 else (ax_up σ 77 0 0)) := by
  refine ax_m.of F kX7_rest.1 [some (.ref (ad 77)), some (.int (cart)), none, none, none, none, none] rfl (Nat.le_of_ble_eq_true rfl) (fun x C => ?_)
  refine ax_aload_0 (pc := 0) C dX7_rest_0 ?_
  refine ax_iconst (pc := 1) (v := 0) C dX7_rest_1 (by decide) ?_
  refine ax_putI (pc := 2) C fX7_65 dX7_rest_2 rfl rfl rfl rfl ?_
  refine ax_aload_0 (pc := 5) C dX7_rest_5 ?_
  refine ax_getI (pc := 6) C fX7_186 dX7_rest_6 rfl rfl ?_
  refine ax_if_ne (pc := 9) (tgt := 15) C dX7_rest_9 (by decide) (fun h9 => ?_) (fun h9 => ?_)
  · refine ax_iload_1 (pc := 15) C dX7_rest_15 ?_
    refine ax_i2l (pc := 16) C dX7_rest_16 ?_
    refine ax_ldc2 (pc := 17) C dX7_rest_17 qX7_243 ?_
    refine ax_aload_0 (pc := 20) C dX7_rest_20 ?_
    refine ax_getR (pc := 21) C fX7_19 dX7_rest_21 rfl rfl ?_
    refine ax_iconst (pc := 24) (v := 0) C dX7_rest_24 (by decide) ?_
    refine ax_iae (pc := 25) (c := 0) C dX7_rest_25 rfl rfl (by decide) (by decide) ?_
    refine ax_val C (show _ = nI n by rw [up_ne (by decide)]; exact hn) ?_
    refine ax_iconst (pc := 26) (v := 1) C dX7_rest_26 (by decide) ?_
    refine ax_isub (pc := 27) C dX7_rest_27 ?_
    refine ax_i2l (pc := 28) C dX7_rest_28 ?_
    refine ax_callSi (pc := 29) C (w_X7_in F (lo := (-1)) rfl rfl) kX7_in mX7_75 dX7_rest_29 (by decide) rfl rfl (Nat.le_of_ble_eq_true rfl) rfl ⟨Nat.le_refl _, Nat.le_refl _⟩ ?_
    refine ax_if_ne (pc := 32) (tgt := 38) C dX7_rest_32 (by decide) (fun h32 => ?_) (fun h32 => ?_)
    · have h32 := ax_bne h32
      simp only [if_neg h9, if_pos h32]
      refine ax_aload_0 (pc := 38) C dX7_rest_38 ?_
      refine ax_callVv (pc := 39) C (w_X7_layNow F (n := n) (by rw [up_ne (by decide)]; exact hn) h6) kX7_layNow mX7_227 dX7_rest_39 (by decide) rfl rfl rfl rfl rfl (Nat.le_of_ble_eq_true rfl) rfl ⟨Nat.le_refl _, Nat.le_refl _⟩ ?_
      refine ax_ldc (pc := 42) C dX7_rest_42 qX7_101 ?_
      refine ax_istore_2 (pc := 44) C dX7_rest_44 rfl ?_
      refine ax_iconst (pc := 45) (v := 1) C dX7_rest_45 (by decide) ?_
      refine ax_istore_3 (pc := 46) C dX7_rest_46 rfl ?_
      have tl : ∀ (rr : Int32) (z4 z5 z6 : Option Value), ax_S x Y ad 0 0 (ax_Q x Y ad (some (.int (if cart < 0 then (mr_o (ly_S (ax_up σ 77 0 0) n n) n 20 1).2 else (mr_o (ly_S (ax_up σ 77 0 0) n n) n 20 1).1 88 cart.toNatClampNeg))) 96 (ax_g Y ad (mr_o (ly_S (ax_up σ 77 0 0) n n) n 20 1).1) 0 0) (mr_o (ly_S (ax_up σ 77 0 0) n n) n 20 1).1 139 [some (.ref (ad 77)), some (.int (cart)), some (.int ((mr_o (ly_S (ax_up σ 77 0 0) n n) n 20 1).2)), some (.int (rr)), z4, z5, z6] [] := by
        intro rr z4 z5 z6
        refine ax_iload_1 (pc := 139) C dX7_rest_139 ?_
        refine ax_if_ge (pc := 140) (tgt := 147) C dX7_rest_140 (by decide) (fun h140 => ?_) (fun h140 => ?_)
        · obtain ⟨c, hc, rfl⟩ := ax_ixN (by omega) (And.intro h140 h32.2)
          have ec : (nI c).toNatClampNeg = c := nI_clamp (by omega)
          refine ax_aload_0 (pc := 147) C dX7_rest_147 ?_
          refine ax_getR (pc := 148) C fX7_40 dX7_rest_148 rfl rfl ?_
          refine ax_iload_1 (pc := 151) C dX7_rest_151 ?_
          refine ax_ian (pc := 152) C dX7_rest_152 rfl (by omega) (by omega) ?_
          exact ax_ir (pc := 153) C rfl dX7_rest_153 (by rw [if_neg (Int32.not_lt.mpr h140), ec]) rfl
        · refine ax_iload_2 (pc := 143) C dX7_rest_143 ?_
          refine ax_goto (pc := 144) (tgt := 153) C dX7_rest_144 (by decide) ?_
          exact ax_ir (pc := 153) C rfl dX7_rest_153 (by rw [if_pos (Int32.not_le.mp h140)]) rfl
      have loop : ∀ (q : Nat) (r Q : Nat) (τ : ax_Z) (z4 z5 z6 : Option Value), r + Q = 21 → Q < q → τ 77 20 = nI n → mr_o τ n Q r = (mr_o (ly_S (ax_up σ 77 0 0) n n) n 20 1) → ax_S x Y ad 0 0 (ax_Q x Y ad (some (.int (if cart < 0 then (mr_o (ly_S (ax_up σ 77 0 0) n n) n 20 1).2 else (mr_o (ly_S (ax_up σ 77 0 0) n n) n 20 1).1 88 cart.toNatClampNeg))) 96 (ax_g Y ad (mr_o (ly_S (ax_up σ 77 0 0) n n) n 20 1).1) 0 0) τ 47 [some (.ref (ad 77)), some (.int (cart)), some (.int (-1000000)), some (.int (nI r)), z4, z5, z6] [] := by
        intro q
        induction q with
        | zero => intro r Q τ z4 z5 z6 hrQ hq hτ hE; exfalso; omega
        | succ q ih =>
          intro r Q τ z4 z5 z6 hrQ hq hτ hE
          refine ax_iload_3 (pc := 47) C dX7_rest_47 ?_
          refine ax_bipush (pc := 48) (v := 20) C dX7_rest_48 (by decide) ?_
          refine ax_icmp_gt (pc := 50) (tgt := 139) C dX7_rest_50 (by decide) (fun h50 => ?_) (fun h50 => ?_)
          · have hr20 : ¬ r ≤ 20 := fun z => absurd (nI_le (b := 20) z (by decide)) (Int32.not_le.mpr h50)
            have hQ0 : Q = 0 := by omega
            subst hQ0
            rw [mr_o] at hE
            have e1 : τ = (mr_o (ly_S (ax_up σ 77 0 0) n n) n 20 1).1 := by rw [← hE]
            have e2 : (-1000000 : Int32) = (mr_o (ly_S (ax_up σ 77 0 0) n n) n 20 1).2 := by rw [← hE]
            refine ax_SLeq e1 ?_ (tl (nI r) z4 z5 z6)
            rw [← e2]
          · have hr20 : r ≤ 20 := Nat.le_of_not_lt (fun z => h50 (nI_lt (a := 20) z (by omega)))
            obtain ⟨Q1, rfl⟩ : ∃ Q1, Q = Q1 + 1 := ⟨Q - 1, by omega⟩
            refine ax_iload_2 (pc := 53) C dX7_rest_53 ?_
            refine ax_ldc (pc := 54) C dX7_rest_54 qX7_101 ?_
            refine ax_icmp_ne (pc := 56) (tgt := 139) C dX7_rest_56 (by decide) (fun z => False.elim (z rfl)) (fun _ => ?_)
            refine ax_iconst (pc := 59) (v := 1) C dX7_rest_59 (by decide) ?_
            refine ax_istore_4 (pc := 60) C dX7_rest_60 rfl ?_
            refine ax_iconst (pc := 62) (v := 0) C dX7_rest_62 (by decide) ?_
            refine ax_istore_5 (pc := 63) C dX7_rest_63 rfl ?_
            have tli : ∀ (z : Option Value), ax_S x Y ad 0 0 (ax_Q x Y ad (some (.int (if cart < 0 then (mr_o (ly_S (ax_up σ 77 0 0) n n) n 20 1).2 else (mr_o (ly_S (ax_up σ 77 0 0) n n) n 20 1).1 88 cart.toNatClampNeg))) 96 (ax_g Y ad (mr_o (ly_S (ax_up σ 77 0 0) n n) n 20 1).1) 0 0) (mr_i τ n n).1 121 [some (.ref (ad 77)), some (.int (cart)), some (.int (-1000000)), some (.int (nI r)), some (.int (ax_b ((mr_i τ n n).2 = true))), some (.int (nI n)), z] [] := by
              intro z
              refine ax_iload_4 (pc := 121) C dX7_rest_121 ?_
              refine ax_if_eq (pc := 123) (tgt := 130) C dX7_rest_123 (by decide) (fun h123 => ?_) (fun h123 => ?_)
              · have h123 := ax_beq h123
                refine ax_ldc (pc := 130) C dX7_rest_130 qX7_101 ?_
                refine ax_istore_2 (pc := 132) C dX7_rest_132 rfl ?_
                refine ax_iinc_3 (pc := 133) C dX7_rest_133 (1) (by decide) rfl ?_
                refine ax_goto (pc := 136) (tgt := 47) C dX7_rest_136 (by decide) ?_
                have hne : ¬ (mr_i τ n n).2 = true := h123
                rw [mr_o, if_neg hne] at hE
                exact ax_Leq (by rw [nI_1]) (ih (r + 1) Q1 (mr_i τ n n).1 (some (.int (ax_b ((mr_i τ n n).2 = true)))) (some (.int (nI n))) z (by omega) (by omega) (by rw [mr_in]; exact hτ) hE)
              · have h123 := ax_bne h123
                rw [mr_o, if_pos h123] at hE
                refine ax_iload_3 (pc := 126) C dX7_rest_126 ?_
                refine ax_goto (pc := 127) (tgt := 132) C dX7_rest_127 (by decide) ?_
                refine ax_istore_2 (pc := 132) C dX7_rest_132 rfl ?_
                refine ax_iinc_3 (pc := 133) C dX7_rest_133 (1) (by decide) rfl ?_
                refine ax_goto (pc := 136) (tgt := 47) C dX7_rest_136 (by decide) ?_
                refine ax_iload_3 (pc := 47) C dX7_rest_47 ?_
                refine ax_bipush (pc := 48) (v := 20) C dX7_rest_48 (by decide) ?_
                refine ax_icmp_gt (pc := 50) (tgt := 139) C dX7_rest_50 (by decide) (fun h50 => ?_) (fun h50 => ?_)
                · have e1 : (mr_i τ n n).1 = (mr_o (ly_S (ax_up σ 77 0 0) n n) n 20 1).1 := by rw [← hE]
                  have e2 : nI r = (mr_o (ly_S (ax_up σ 77 0 0) n n) n 20 1).2 := by rw [← hE]
                  refine ax_SLeq e1 ?_ (tl (nI r + 1) (some (.int (ax_b ((mr_i τ n n).2 = true)))) (some (.int (nI n))) z)
                  rw [← e2]
                · refine ax_iload_2 (pc := 53) C dX7_rest_53 ?_
                  refine ax_ldc (pc := 54) C dX7_rest_54 qX7_101 ?_
                  refine ax_icmp_ne (pc := 56) (tgt := 139) C dX7_rest_56 (by decide) (fun _ => ?_) (fun z => False.elim (absurd z (nI_neR (by omega))))
                  have e1 : (mr_i τ n n).1 = (mr_o (ly_S (ax_up σ 77 0 0) n n) n 20 1).1 := by rw [← hE]
                  have e2 : nI r = (mr_o (ly_S (ax_up σ 77 0 0) n n) n 20 1).2 := by rw [← hE]
                  refine ax_SLeq e1 ?_ (tl (nI r + 1) (some (.int (ax_b ((mr_i τ n n).2 = true)))) (some (.int (nI n))) z)
                  rw [← e2]
            have loop2 : ∀ (q2 : Nat) (c : Nat) (z : Option Value), c ≤ n → n < c + q2 → ax_S x Y ad 0 0 (ax_Q x Y ad (some (.int (if cart < 0 then (mr_o (ly_S (ax_up σ 77 0 0) n n) n 20 1).2 else (mr_o (ly_S (ax_up σ 77 0 0) n n) n 20 1).1 88 cart.toNatClampNeg))) 96 (ax_g Y ad (mr_o (ly_S (ax_up σ 77 0 0) n n) n 20 1).1) 0 0) (mr_i τ n c).1 65 [some (.ref (ad 77)), some (.int (cart)), some (.int (-1000000)), some (.int (nI r)), some (.int (ax_b ((mr_i τ n c).2 = true))), some (.int (nI c)), z] [] := by
              intro q2
              induction q2 with
              | zero => intro c z h1 h2; exfalso; omega
              | succ q2 ih2 =>
                intro c z h1 h2
                refine ax_iload_5 (pc := 65) C dX7_rest_65 ?_
                refine ax_aload_0 (pc := 67) C dX7_rest_67 ?_
                refine ax_getI (pc := 68) C fX7_195 dX7_rest_68 rfl rfl ?_
                refine ax_val C (show _ = nI n by rw [mr_in]; exact hτ) ?_
                refine ax_icmp_ge (pc := 71) (tgt := 121) C dX7_rest_71 (by decide) (fun h71 => ?_) (fun h71 => ?_)
                · have hcn : ¬ c < n := fun q => nI_ge q (by omega) h71
                  have ecn : c = n := by omega
                  subst ecn
                  exact tli z
                · have hcn : c < n := Nat.lt_of_not_le (fun q => h71 (nI_le q (by omega)))
                  refine ax_aload_0 (pc := 74) C dX7_rest_74 ?_
                  refine ax_iload_5 (pc := 75) C dX7_rest_75 ?_
                  refine ax_callVi (pc := 77) C (w_X7_bestOf F (n := n) (by rw [mr_in]; exact hτ) (by omega) (c := c) (by omega)) kX7_bestOf mX7_248 dX7_rest_77 (by decide) rfl rfl rfl rfl rfl (Nat.le_of_ble_eq_true rfl) rfl ⟨Nat.le_refl _, Nat.le_refl _⟩ ?_
                  refine ax_istore_6 (pc := 80) C dX7_rest_80 rfl ?_
                  refine ax_iload_4 (pc := 82) C dX7_rest_82 ?_
                  refine ax_if_eq (pc := 84) (tgt := 103) C dX7_rest_84 (by decide) (fun h84 => ?_) (fun h84 => ?_)
                  · have h84 := ax_beq h84
                    refine ax_iconst (pc := 103) (v := 0) C dX7_rest_103 (by decide) ?_
                    refine ax_istore_4 (pc := 104) C dX7_rest_104 rfl ?_
                    refine ax_aload_0 (pc := 106) C dX7_rest_106 ?_
                    refine ax_getR (pc := 107) C fX7_40 dX7_rest_107 rfl rfl ?_
                    refine ax_iload_5 (pc := 110) C dX7_rest_110 ?_
                    refine ax_iload_6 (pc := 112) C dX7_rest_112 ?_
                    refine ax_isn (pc := 114) C dX7_rest_114 rfl (by omega) (by omega) ?_
                    refine ax_iinc_5 (pc := 115) C dX7_rest_115 (1) (by decide) rfl ?_
                    refine ax_goto (pc := 118) (tgt := 65) C dX7_rest_118 (by decide) ?_
                    have e := (show (0 : Int32) = ax_b ((mr_i τ n (c + 1)).2 = true) from (ax_b0 (fun z => h84 (by rw [mr_i2, Bool.and_eq_true] at z; exact z.1))).symm)
                    refine ax_SLeq mr_i1 (by rw [← e, nI_1]) (ih2 (c + 1) (some (.int (nI (mb (mr_i τ n c).1 c n 12).2))) (by omega) (by omega))
                  · have h84 := ax_bne h84
                    refine ax_iload_6 (pc := 87) C dX7_rest_87 ?_
                    refine ax_aload_0 (pc := 89) C dX7_rest_89 ?_
                    refine ax_getR (pc := 90) C fX7_40 dX7_rest_90 rfl rfl ?_
                    refine ax_iload_5 (pc := 93) C dX7_rest_93 ?_
                    refine ax_ian (pc := 95) C dX7_rest_95 rfl (by omega) (by omega) ?_
                    refine ax_icmp_ne (pc := 96) (tgt := 103) C dX7_rest_96 (by decide) (fun h96 => ?_) (fun h96 => ?_)
                    · refine ax_iconst (pc := 103) (v := 0) C dX7_rest_103 (by decide) ?_
                      refine ax_istore_4 (pc := 104) C dX7_rest_104 rfl ?_
                      refine ax_aload_0 (pc := 106) C dX7_rest_106 ?_
                      refine ax_getR (pc := 107) C fX7_40 dX7_rest_107 rfl rfl ?_
                      refine ax_iload_5 (pc := 110) C dX7_rest_110 ?_
                      refine ax_iload_6 (pc := 112) C dX7_rest_112 ?_
                      refine ax_isn (pc := 114) C dX7_rest_114 rfl (by omega) (by omega) ?_
                      refine ax_iinc_5 (pc := 115) C dX7_rest_115 (1) (by decide) rfl ?_
                      refine ax_goto (pc := 118) (tgt := 65) C dX7_rest_118 (by decide) ?_
                      have e := (show (0 : Int32) = ax_b ((mr_i τ n (c + 1)).2 = true) from (ax_b0 (fun z => h96 (by rw [mr_i2, Bool.and_eq_true] at z; exact of_decide_eq_true z.2))).symm)
                      refine ax_SLeq mr_i1 (by rw [← e, nI_1]) (ih2 (c + 1) (some (.int (nI (mb (mr_i τ n c).1 c n 12).2))) (by omega) (by omega))
                    · refine ax_iconst (pc := 99) (v := 1) C dX7_rest_99 (by decide) ?_
                      refine ax_goto (pc := 100) (tgt := 104) C dX7_rest_100 (by decide) ?_
                      refine ax_istore_4 (pc := 104) C dX7_rest_104 rfl ?_
                      refine ax_aload_0 (pc := 106) C dX7_rest_106 ?_
                      refine ax_getR (pc := 107) C fX7_40 dX7_rest_107 rfl rfl ?_
                      refine ax_iload_5 (pc := 110) C dX7_rest_110 ?_
                      refine ax_iload_6 (pc := 112) C dX7_rest_112 ?_
                      refine ax_isn (pc := 114) C dX7_rest_114 rfl (by omega) (by omega) ?_
                      refine ax_iinc_5 (pc := 115) C dX7_rest_115 (1) (by decide) rfl ?_
                      refine ax_goto (pc := 118) (tgt := 65) C dX7_rest_118 (by decide) ?_
                      have e := (show (1 : Int32) = ax_b ((mr_i τ n (c + 1)).2 = true) from (ax_b1 (by rw [mr_i2, Bool.and_eq_true]; exact ⟨h84, decide_eq_true h96⟩)).symm)
                      refine ax_SLeq mr_i1 (by rw [← e, nI_1]) (ih2 (c + 1) (some (.int (nI (mb (mr_i τ n c).1 c n 12).2))) (by omega) (by omega))
            exact ax_Leq (by rw [mr_i, ax_b1 rfl]; rfl) (loop2 (n + 1) 0 z6 (by omega) (by omega))
      exact loop 21 1 20 _ none none none rfl (by decide) ly_20 rfl
    · have h32 := ax_beq h32
      refine ax_ldc (pc := 35) C dX7_rest_35 qX7_85 ?_
      exact ax_ir (pc := 37) C rfl dX7_rest_37 (by rw [if_neg h9, if_neg h32]) (by rw [if_neg h9, if_neg h32])
  · refine ax_ldc (pc := 12) C dX7_rest_12 qX7_223 ?_
    exact ax_ir (pc := 14) C rfl dX7_rest_14 (by rw [if_pos h9]) (by rw [if_pos h9])
