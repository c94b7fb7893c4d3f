set_option maxRecDepth 20000 in
set_option maxHeartbeats 4000000 in
theorem w_X2_patiencesToGoIn {Y : ax_Y} {ad : Nat → Nat} (F : ax_F Y) {l : Launch} {σ : ax_Z} {n : Nat} (hn : σ 14 10 = nI n) (h7 : n ≤ 7) (ht : σ 14 9 = 0 ∨ σ 14 9 = 1) {c : Nat} (hc : c < 7) {hr : Int32} : ax_m Y ad l iX2_patiencesToGoIn 4 σ [.ref (ad 28), .ref (ad 14), .int (nI c), .int hr] (some (.int (nI (ms_k (th_f (hp_K (hp_bc σ 29 14) 29 n) c hr) 12)))) (tb_it (hp_bc σ 29 14) n c 12) := by
  have e10 : hp_bc σ 29 14 29 10 = nI n := by rw [← hn]; unfold hp_bc; rw [up_o (by decide), up_s]
  refine ax_m.of F kX2_patiencesToGoIn.1 [some (.ref (ad 28)), some (.ref (ad 14)), some (.int (nI c)), some (.int (hr)), none, none] rfl (Nat.le_of_ble_eq_true rfl) (fun x C => ?_)
  have loop : ∀ (q : Nat) (m : Nat), m ≤ 12 → 12 < m + q → ax_S x Y ad 0 0 (ax_Q x Y ad (some (.int (nI (ms_k (th_f (hp_K (hp_bc σ 29 14) 29 n) c hr) 12)))) 96 (ax_g Y ad (tb_it (hp_bc σ 29 14) n c 12)) 0 0) (tb_it (hp_bc σ 29 14) n c m) 14 [some (.ref (ad 28)), some (.ref (ad 14)), some (.int (nI c)), some (.int (hr)), some (.int (nI (ms_k (th_f (hp_K (hp_bc σ 29 14) 29 n) c hr) m))), some (.int (nI m))] [] := by
    intro q
    induction q with
    | zero => intro m h1 h2; exfalso; omega
    | succ q ih =>
      intro m h1 h2
      have ew : tb_it (hp_bc σ 29 14) n c (m + 1) 35 c = DW (tb_K (hp_K (hp_bc σ 29 14) 29 n) c (nI m)) c := by
        rw [← tb_it_u]
        exact hp_dy_w (p := 29) h7 hc
      refine ax_iload_5 (pc := 14) C dX2_patiencesToGoIn_14 ?_
      refine ax_bipush (pc := 16) (v := 11) C dX2_patiencesToGoIn_16 (by decide) ?_
      refine ax_icmp_gt (pc := 18) (tgt := 67) C dX2_patiencesToGoIn_18 (by decide) (fun h18 => ?_) (fun h18 => ?_)
      · have hm : ¬ m < 12 := fun z => nI_nlt (a := 11) (b := m) (by omega) (by decide) h18
        refine ax_iload_4 (pc := 67) C dX2_patiencesToGoIn_67 ?_
        exact ax_ir (pc := 69) C rfl dX2_patiencesToGoIn_69 (by rw [show m = 12 by omega]) (by rw [show m = 12 by omega])
      · have hm : m < 12 := Nat.lt_of_not_le (fun z => h18 (nI_lt (a := 11) (b := m) (by omega) (by omega)))
        refine ax_aload_0 (pc := 21) C dX2_patiencesToGoIn_21 ?_
        refine ax_getR (pc := 22) C fX2_12 dX2_patiencesToGoIn_22 rfl rfl ?_
        refine ax_getR (pc := 25) C fX2_29 dX2_patiencesToGoIn_25 rfl rfl ?_
        refine ax_iload_2 (pc := 28) C dX2_patiencesToGoIn_28 ?_
        refine ax_iload_5 (pc := 29) C dX2_patiencesToGoIn_29 ?_
        refine ax_isn (pc := 31) C dX2_patiencesToGoIn_31 rfl hc (by decide) ?_
        refine ax_aload_0 (pc := 32) C dX2_patiencesToGoIn_32 ?_
        refine ax_getR (pc := 33) C fX2_12 dX2_patiencesToGoIn_33 rfl rfl ?_
        refine ax_callVv (pc := 36) C (w_X3_runDay F ax_day (n := n) (by rw [up_ne (by decide), tb_it_o (by decide)]; exact e10) h7) kX3_runDay mX2_22 dX2_patiencesToGoIn_36 (by decide) rfl rfl rfl rfl rfl (Nat.le_of_ble_eq_true rfl) rfl ⟨Nat.le_refl _, Nat.le_refl _⟩ ?_
        refine ax_aload_0 (pc := 39) C dX2_patiencesToGoIn_39 ?_
        refine ax_getR (pc := 40) C fX2_12 dX2_patiencesToGoIn_40 rfl rfl ?_
        refine ax_getR (pc := 43) C fX2_43 dX2_patiencesToGoIn_43 rfl rfl ?_
        refine ax_iload_2 (pc := 46) C dX2_patiencesToGoIn_46 ?_
        refine ax_ian (pc := 47) C dX2_patiencesToGoIn_47 rfl hc (by decide) ?_
        refine ax_val C ew ?_
        refine ax_iload_3 (pc := 48) C dX2_patiencesToGoIn_48 ?_
        refine ax_icmp_ne (pc := 49) (tgt := 61) C dX2_patiencesToGoIn_49 (by decide) (fun h49 => ?_) (fun h49 => ?_)
        · refine ax_iinc_5 (pc := 61) C dX2_patiencesToGoIn_61 (1) (by decide) rfl ?_
          refine ax_goto (pc := 64) (tgt := 14) C dX2_patiencesToGoIn_64 (by decide) ?_
          have hst : ¬ th_f (hp_K (hp_bc σ 29 14) 29 n) c hr m = true := by simp only [th_f, decide_eq_true_eq]; exact h49
          refine ax_Leq ?_ (ih (m + 1) (by omega) (by omega))
          rw [ms_skip hst, nI_1]
        · refine ax_iload_4 (pc := 52) C dX2_patiencesToGoIn_52 ?_
          refine ax_iconst (pc := 54) (v := 1) C dX2_patiencesToGoIn_54 (by decide) ?_
          refine ax_iload_5 (pc := 55) C dX2_patiencesToGoIn_55 ?_
          refine ax_ishl (pc := 57) C dX2_patiencesToGoIn_57 ?_
          refine ax_ior (pc := 58) C dX2_patiencesToGoIn_58 ?_
          refine ax_istore_4 (pc := 59) C dX2_patiencesToGoIn_59 rfl ?_
          refine ax_iinc_5 (pc := 61) C dX2_patiencesToGoIn_61 (1) (by decide) rfl ?_
          refine ax_goto (pc := 64) (tgt := 14) C dX2_patiencesToGoIn_64 (by decide) ?_
          have hst : th_f (hp_K (hp_bc σ 29 14) 29 n) c hr m = true := by simp only [th_f, decide_eq_true_eq]; exact h49
          refine ax_Leq ?_ (ih (m + 1) (by omega) (by omega))
          rw [ms_add (by omega) hst, nI_1]
  refine ax_aload_0 (pc := 0) C dX2_patiencesToGoIn_0 ?_
  refine ax_getR (pc := 1) C fX2_12 dX2_patiencesToGoIn_1 rfl rfl ?_
  refine ax_aload_1 (pc := 4) C dX2_patiencesToGoIn_4 ?_
  refine ax_callVv (pc := 5) C (w_X3_become F ax_day ax_now (by decide) ht) kX3_become mX2_18 dX2_patiencesToGoIn_5 (by decide) rfl rfl rfl rfl rfl (Nat.le_of_ble_eq_true rfl) rfl ⟨Nat.le_refl _, Nat.le_refl _⟩ ?_
  refine ax_iconst (pc := 8) (v := 0) C dX2_patiencesToGoIn_8 (by decide) ?_
  refine ax_istore_4 (pc := 9) C dX2_patiencesToGoIn_9 rfl ?_
  refine ax_iconst (pc := 11) (v := 0) C dX2_patiencesToGoIn_11 (by decide) ?_
  refine ax_istore_5 (pc := 12) C dX2_patiencesToGoIn_12 rfl ?_
  exact loop 13 0 (by omega) (by omega)

set_option maxRecDepth 20000 in
set_option maxHeartbeats 4000000 in
theorem w_X2_whenOfTwo {Y : ax_Y} {ad : Nat → Nat} (F : ax_F Y) {l : Launch} {σ : ax_Z} {a b h : Nat} (ha : a < 7) (hb : b < 7) (hh : h < 12) {w : Int32} : ax_m Y ad l iX2_whenOfTwo 2 σ [.ref (ad 28), .ref (ad 14), .int (nI a), .int (nI b), .int (nI h), .int w] (some (.int (if w = 0 then (tw_f (hs_toll (σ 15) 2) (σ 18 a) (σ 18 b) (nI a) (nI b) (11 - h)).2.2.1 else (tw_f (hs_toll (σ 15) 2) (σ 18 a) (σ 18 b) (nI a) (nI b) (11 - h)).2.2.2))) σ := by
  refine ax_m.of F kX2_whenOfTwo.1 [some (.ref (ad 28)), some (.ref (ad 14)), some (.int (nI a)), some (.int (nI b)), some (.int (nI h)), some (.int (w)), none, none, none, none, none, none, none, none, none, none] rfl (Nat.le_of_ble_eq_true rfl) (fun x C => ?_)
  have loop : ∀ (q : Nat) (m : Nat) (z1 z2 z3 z4 : Option Value), m + h ≤ 11 → 11 < m + h + q → ax_S x Y ad 0 0 (ax_Q x Y ad (some (.int (if w = 0 then (tw_f (hs_toll (σ 15) 2) (σ 18 a) (σ 18 b) (nI a) (nI b) (11 - h)).2.2.1 else (tw_f (hs_toll (σ 15) 2) (σ 18 a) (σ 18 b) (nI a) (nI b) (11 - h)).2.2.2))) 96 (ax_g Y ad σ) 0 0) σ 25 [some (.ref (ad 28)), some (.ref (ad 14)), some (.int (nI a)), some (.int (nI b)), some (.int (nI h)), some (.int (w)), some (.int ((hs_toll (σ 15) 2))), some (.int ((tw_f (hs_toll (σ 15) 2) (σ 18 a) (σ 18 b) (nI a) (nI b) m).1)), some (.int ((tw_f (hs_toll (σ 15) 2) (σ 18 a) (σ 18 b) (nI a) (nI b) m).2.1)), some (.int ((tw_f (hs_toll (σ 15) 2) (σ 18 a) (σ 18 b) (nI a) (nI b) m).2.2.1)), some (.int ((tw_f (hs_toll (σ 15) 2) (σ 18 a) (σ 18 b) (nI a) (nI b) m).2.2.2)), some (.int (10 - nI m)), z1, z2, z3, z4] [] := by
    intro q
    induction q with
    | zero => intro m z1 z2 z3 z4 h1 h2; exfalso; omega
    | succ q ih =>
      intro m z1 z2 z3 z4 h1 h2
      refine ax_iload_11 (pc := 25) C dX2_whenOfTwo_25 ?_
      refine ax_iload_4 (pc := 27) C dX2_whenOfTwo_27 ?_
      refine ax_icmp_lt (pc := 29) (tgt := 160) C dX2_whenOfTwo_29 (by decide) (fun h29 => ?_) (fun h29 => ?_)
      · have hm : ¬ m + h ≤ 10 := fun z => absurd ((tw_lt (by omega) (by omega)).mp h29) (by omega)
        refine ax_iload_5 (pc := 160) C dX2_whenOfTwo_160 ?_
        refine ax_if_eq (pc := 162) (tgt := 170) C dX2_whenOfTwo_162 (by decide) (fun h162 => ?_) (fun h162 => ?_)
        · refine ax_iload_9 (pc := 170) C dX2_whenOfTwo_170 ?_
          exact ax_ir (pc := 172) C rfl dX2_whenOfTwo_172 (by rw [show 11 - h = m by omega]; simp_all) rfl
        · refine ax_iload_10 (pc := 165) C dX2_whenOfTwo_165 ?_
          refine ax_goto (pc := 167) (tgt := 172) C dX2_whenOfTwo_167 (by decide) ?_
          exact ax_ir (pc := 172) C rfl dX2_whenOfTwo_172 (by rw [show 11 - h = m by omega]; simp_all) rfl
      · have hm : m + h ≤ 10 := Nat.le_of_not_lt (fun z => h29 ((tw_lt (by omega) (by omega)).mpr z))
        refine ax_aload_1 (pc := 32) C dX2_whenOfTwo_32 ?_
        refine ax_getR (pc := 33) C fX2_49 dX2_whenOfTwo_33 rfl rfl ?_
        refine ax_iload_2 (pc := 36) C dX2_whenOfTwo_36 ?_
        refine ax_ian (pc := 37) C dX2_whenOfTwo_37 rfl ha (by decide) ?_
        refine ax_iload_7 (pc := 38) C dX2_whenOfTwo_38 ?_
        refine ax_iadd (pc := 40) C dX2_whenOfTwo_40 ?_
        refine ax_istore_12 (pc := 41) C dX2_whenOfTwo_41 rfl ?_
        refine ax_aload_1 (pc := 43) C dX2_whenOfTwo_43 ?_
        refine ax_getR (pc := 44) C fX2_49 dX2_whenOfTwo_44 rfl rfl ?_
        refine ax_iload_3 (pc := 47) C dX2_whenOfTwo_47 ?_
        refine ax_ian (pc := 48) C dX2_whenOfTwo_48 rfl hb (by decide) ?_
        refine ax_iload_8 (pc := 49) C dX2_whenOfTwo_49 ?_
        refine ax_iadd (pc := 51) C dX2_whenOfTwo_51 ?_
        refine ax_istore_13 (pc := 52) C dX2_whenOfTwo_52 rfl ?_
        refine ax_iload_6 (pc := 54) C dX2_whenOfTwo_54 ?_
        refine ax_iload_13 (pc := 56) C dX2_whenOfTwo_56 ?_
        refine ax_icmp_gt (pc := 58) (tgt := 65) C dX2_whenOfTwo_58 (by decide) (fun h58 => ?_) (fun h58 => ?_)
        · refine ax_iconst (pc := 65) (v := 0) C dX2_whenOfTwo_65 (by decide) ?_
          refine ax_istore_14 (pc := 66) C dX2_whenOfTwo_66 rfl ?_
          refine ax_iload_6 (pc := 68) C dX2_whenOfTwo_68 ?_
          refine ax_iload_14 (pc := 70) C dX2_whenOfTwo_70 ?_
          refine ax_if_eq (pc := 72) (tgt := 79) C dX2_whenOfTwo_72 (by decide) (fun _ => ?_) (fun z => False.elim (absurd z (by decide)))
          refine ax_iload_12 (pc := 79) C dX2_whenOfTwo_79 ?_
          refine ax_icmp_gt (pc := 81) (tgt := 88) C dX2_whenOfTwo_81 (by decide) (fun h81 => ?_) (fun h81 => ?_)
          · refine ax_iconst (pc := 88) (v := 0) C dX2_whenOfTwo_88 (by decide) ?_
            refine ax_istore_15 (pc := 89) C dX2_whenOfTwo_89 rfl ?_
            refine ax_iload_15 (pc := 91) C dX2_whenOfTwo_91 ?_
            refine ax_if_ne (pc := 93) (tgt := 101) C dX2_whenOfTwo_93 (by decide) (fun z => False.elim (absurd z (by decide))) (fun _ => ?_)
            refine ax_iload_14 (pc := 96) C dX2_whenOfTwo_96 ?_
            refine ax_if_eq (pc := 98) (tgt := 146) C dX2_whenOfTwo_98 (by decide) (fun _ => ?_) (fun z => False.elim (absurd z (by decide)))
            refine ax_iload_12 (pc := 146) C dX2_whenOfTwo_146 ?_
            refine ax_istore_7 (pc := 148) C dX2_whenOfTwo_148 rfl ?_
            refine ax_iload_13 (pc := 150) C dX2_whenOfTwo_150 ?_
            refine ax_istore_8 (pc := 152) C dX2_whenOfTwo_152 rfl ?_
            refine ax_iinc_11 (pc := 154) C dX2_whenOfTwo_154 (-1) (by decide) rfl ?_
            refine ax_goto (pc := 157) (tgt := 25) C dX2_whenOfTwo_157 (by decide) ?_
            refine ax_Leq ?_ (ih (m + 1) (some (.int (σ 18 a + (tw_f (hs_toll (σ 15) 2) (σ 18 a) (σ 18 b) (nI a) (nI b) m).1))) (some (.int (σ 18 b + (tw_f (hs_toll (σ 15) 2) (σ 18 a) (σ 18 b) (nI a) (nI b) m).2.1))) (some (.int 0)) (some (.int 0)) (by omega) (by omega))
            rw [tw_t (by omega)]
            simp_all [tw_f, tw_step, ← Int32.not_lt]
          · refine ax_iconst (pc := 84) (v := 1) C dX2_whenOfTwo_84 (by decide) ?_
            refine ax_goto (pc := 85) (tgt := 89) C dX2_whenOfTwo_85 (by decide) ?_
            refine ax_istore_15 (pc := 89) C dX2_whenOfTwo_89 rfl ?_
            refine ax_iload_15 (pc := 91) C dX2_whenOfTwo_91 ?_
            refine ax_if_ne (pc := 93) (tgt := 101) C dX2_whenOfTwo_93 (by decide) (fun _ => ?_) (fun z => False.elim (absurd z (by decide)))
            refine ax_iload_11 (pc := 101) C dX2_whenOfTwo_101 ?_
            refine ax_istore_9 (pc := 103) C dX2_whenOfTwo_103 rfl ?_
            refine ax_iload_15 (pc := 105) C dX2_whenOfTwo_105 ?_
            refine ax_if_eq (pc := 107) (tgt := 114) C dX2_whenOfTwo_107 (by decide) (fun z => False.elim (absurd z (by decide))) (fun _ => ?_)
            refine ax_iload_2 (pc := 110) C dX2_whenOfTwo_110 ?_
            refine ax_goto (pc := 111) (tgt := 115) C dX2_whenOfTwo_111 (by decide) ?_
            refine ax_istore_10 (pc := 115) C dX2_whenOfTwo_115 rfl ?_
            refine ax_iload_15 (pc := 117) C dX2_whenOfTwo_117 ?_
            refine ax_if_eq (pc := 119) (tgt := 127) C dX2_whenOfTwo_119 (by decide) (fun z => False.elim (absurd z (by decide))) (fun _ => ?_)
            refine ax_iload_6 (pc := 122) C dX2_whenOfTwo_122 ?_
            refine ax_goto (pc := 124) (tgt := 128) C dX2_whenOfTwo_124 (by decide) ?_
            refine ax_istore_7 (pc := 128) C dX2_whenOfTwo_128 rfl ?_
            refine ax_iload_15 (pc := 130) C dX2_whenOfTwo_130 ?_
            refine ax_if_eq (pc := 132) (tgt := 139) C dX2_whenOfTwo_132 (by decide) (fun z => False.elim (absurd z (by decide))) (fun _ => ?_)
            refine ax_iconst (pc := 135) (v := 0) C dX2_whenOfTwo_135 (by decide) ?_
            refine ax_goto (pc := 136) (tgt := 141) C dX2_whenOfTwo_136 (by decide) ?_
            refine ax_istore_8 (pc := 141) C dX2_whenOfTwo_141 rfl ?_
            refine ax_goto (pc := 143) (tgt := 154) C dX2_whenOfTwo_143 (by decide) ?_
            refine ax_iinc_11 (pc := 154) C dX2_whenOfTwo_154 (-1) (by decide) rfl ?_
            refine ax_goto (pc := 157) (tgt := 25) C dX2_whenOfTwo_157 (by decide) ?_
            refine ax_Leq ?_ (ih (m + 1) (some (.int (σ 18 a + (tw_f (hs_toll (σ 15) 2) (σ 18 a) (σ 18 b) (nI a) (nI b) m).1))) (some (.int (σ 18 b + (tw_f (hs_toll (σ 15) 2) (σ 18 a) (σ 18 b) (nI a) (nI b) m).2.1))) (some (.int 0)) (some (.int 1)) (by omega) (by omega))
            rw [tw_t (by omega)]
            simp_all [tw_f, tw_step, ← Int32.not_lt]
        · refine ax_iconst (pc := 61) (v := 1) C dX2_whenOfTwo_61 (by decide) ?_
          refine ax_goto (pc := 62) (tgt := 66) C dX2_whenOfTwo_62 (by decide) ?_
          refine ax_istore_14 (pc := 66) C dX2_whenOfTwo_66 rfl ?_
          refine ax_iload_6 (pc := 68) C dX2_whenOfTwo_68 ?_
          refine ax_iload_14 (pc := 70) C dX2_whenOfTwo_70 ?_
          refine ax_if_eq (pc := 72) (tgt := 79) C dX2_whenOfTwo_72 (by decide) (fun z => False.elim (absurd z (by decide))) (fun _ => ?_)
          refine ax_iconst (pc := 75) (v := 0) C dX2_whenOfTwo_75 (by decide) ?_
          refine ax_goto (pc := 76) (tgt := 81) C dX2_whenOfTwo_76 (by decide) ?_
          refine ax_icmp_gt (pc := 81) (tgt := 88) C dX2_whenOfTwo_81 (by decide) (fun h81 => ?_) (fun h81 => ?_)
          · refine ax_iconst (pc := 88) (v := 0) C dX2_whenOfTwo_88 (by decide) ?_
            refine ax_istore_15 (pc := 89) C dX2_whenOfTwo_89 rfl ?_
            refine ax_iload_15 (pc := 91) C dX2_whenOfTwo_91 ?_
            refine ax_if_ne (pc := 93) (tgt := 101) C dX2_whenOfTwo_93 (by decide) (fun z => False.elim (absurd z (by decide))) (fun _ => ?_)
            refine ax_iload_14 (pc := 96) C dX2_whenOfTwo_96 ?_
            refine ax_if_eq (pc := 98) (tgt := 146) C dX2_whenOfTwo_98 (by decide) (fun z => False.elim (absurd z (by decide))) (fun _ => ?_)
            refine ax_iload_11 (pc := 101) C dX2_whenOfTwo_101 ?_
            refine ax_istore_9 (pc := 103) C dX2_whenOfTwo_103 rfl ?_
            refine ax_iload_15 (pc := 105) C dX2_whenOfTwo_105 ?_
            refine ax_if_eq (pc := 107) (tgt := 114) C dX2_whenOfTwo_107 (by decide) (fun _ => ?_) (fun z => False.elim (absurd z (by decide)))
            refine ax_iload_3 (pc := 114) C dX2_whenOfTwo_114 ?_
            refine ax_istore_10 (pc := 115) C dX2_whenOfTwo_115 rfl ?_
            refine ax_iload_15 (pc := 117) C dX2_whenOfTwo_117 ?_
            refine ax_if_eq (pc := 119) (tgt := 127) C dX2_whenOfTwo_119 (by decide) (fun _ => ?_) (fun z => False.elim (absurd z (by decide)))
            refine ax_iconst (pc := 127) (v := 0) C dX2_whenOfTwo_127 (by decide) ?_
            refine ax_istore_7 (pc := 128) C dX2_whenOfTwo_128 rfl ?_
            refine ax_iload_15 (pc := 130) C dX2_whenOfTwo_130 ?_
            refine ax_if_eq (pc := 132) (tgt := 139) C dX2_whenOfTwo_132 (by decide) (fun _ => ?_) (fun z => False.elim (absurd z (by decide)))
            refine ax_iload_6 (pc := 139) C dX2_whenOfTwo_139 ?_
            refine ax_istore_8 (pc := 141) C dX2_whenOfTwo_141 rfl ?_
            refine ax_goto (pc := 143) (tgt := 154) C dX2_whenOfTwo_143 (by decide) ?_
            refine ax_iinc_11 (pc := 154) C dX2_whenOfTwo_154 (-1) (by decide) rfl ?_
            refine ax_goto (pc := 157) (tgt := 25) C dX2_whenOfTwo_157 (by decide) ?_
            refine ax_Leq ?_ (ih (m + 1) (some (.int (σ 18 a + (tw_f (hs_toll (σ 15) 2) (σ 18 a) (σ 18 b) (nI a) (nI b) m).1))) (some (.int (σ 18 b + (tw_f (hs_toll (σ 15) 2) (σ 18 a) (σ 18 b) (nI a) (nI b) m).2.1))) (some (.int 1)) (some (.int 0)) (by omega) (by omega))
            rw [tw_t (by omega)]
            simp_all [tw_f, tw_step, ← Int32.not_lt]
          · refine ax_iconst (pc := 84) (v := 1) C dX2_whenOfTwo_84 (by decide) ?_
            refine ax_goto (pc := 85) (tgt := 89) C dX2_whenOfTwo_85 (by decide) ?_
            refine ax_istore_15 (pc := 89) C dX2_whenOfTwo_89 rfl ?_
            refine ax_iload_15 (pc := 91) C dX2_whenOfTwo_91 ?_
            refine ax_if_ne (pc := 93) (tgt := 101) C dX2_whenOfTwo_93 (by decide) (fun _ => ?_) (fun z => False.elim (absurd z (by decide)))
            refine ax_iload_11 (pc := 101) C dX2_whenOfTwo_101 ?_
            refine ax_istore_9 (pc := 103) C dX2_whenOfTwo_103 rfl ?_
            refine ax_iload_15 (pc := 105) C dX2_whenOfTwo_105 ?_
            refine ax_if_eq (pc := 107) (tgt := 114) C dX2_whenOfTwo_107 (by decide) (fun z => False.elim (absurd z (by decide))) (fun _ => ?_)
            refine ax_iload_2 (pc := 110) C dX2_whenOfTwo_110 ?_
            refine ax_goto (pc := 111) (tgt := 115) C dX2_whenOfTwo_111 (by decide) ?_
            refine ax_istore_10 (pc := 115) C dX2_whenOfTwo_115 rfl ?_
            refine ax_iload_15 (pc := 117) C dX2_whenOfTwo_117 ?_
            refine ax_if_eq (pc := 119) (tgt := 127) C dX2_whenOfTwo_119 (by decide) (fun z => False.elim (absurd z (by decide))) (fun _ => ?_)
            refine ax_iload_6 (pc := 122) C dX2_whenOfTwo_122 ?_
            refine ax_goto (pc := 124) (tgt := 128) C dX2_whenOfTwo_124 (by decide) ?_
            refine ax_istore_7 (pc := 128) C dX2_whenOfTwo_128 rfl ?_
            refine ax_iload_15 (pc := 130) C dX2_whenOfTwo_130 ?_
            refine ax_if_eq (pc := 132) (tgt := 139) C dX2_whenOfTwo_132 (by decide) (fun z => False.elim (absurd z (by decide))) (fun _ => ?_)
            refine ax_iconst (pc := 135) (v := 0) C dX2_whenOfTwo_135 (by decide) ?_
            refine ax_goto (pc := 136) (tgt := 141) C dX2_whenOfTwo_136 (by decide) ?_
            refine ax_istore_8 (pc := 141) C dX2_whenOfTwo_141 rfl ?_
            refine ax_goto (pc := 143) (tgt := 154) C dX2_whenOfTwo_143 (by decide) ?_
            refine ax_iinc_11 (pc := 154) C dX2_whenOfTwo_154 (-1) (by decide) rfl ?_
            refine ax_goto (pc := 157) (tgt := 25) C dX2_whenOfTwo_157 (by decide) ?_
            refine ax_Leq ?_ (ih (m + 1) (some (.int (σ 18 a + (tw_f (hs_toll (σ 15) 2) (σ 18 a) (σ 18 b) (nI a) (nI b) m).1))) (some (.int (σ 18 b + (tw_f (hs_toll (σ 15) 2) (σ 18 a) (σ 18 b) (nI a) (nI b) m).2.1))) (some (.int 1)) (some (.int 1)) (by omega) (by omega))
            rw [tw_t (by omega)]
            simp_all [tw_f, tw_step, ← Int32.not_lt]
  refine ax_aload_1 (pc := 0) C dX2_whenOfTwo_0 ?_
  refine ax_iconst (pc := 1) (v := 2) C dX2_whenOfTwo_1 (by decide) ?_
  refine ax_callVi (pc := 2) C (w_X3_tollFor F ax_now (k := 2) (by decide)) kX3_tollFor mX2_46 dX2_whenOfTwo_2 (by decide) rfl rfl rfl rfl rfl (Nat.le_of_ble_eq_true rfl) rfl ⟨Nat.le_refl _, Nat.le_refl _⟩ ?_
  refine ax_istore_6 (pc := 5) C dX2_whenOfTwo_5 rfl ?_
  refine ax_iload_6 (pc := 7) C dX2_whenOfTwo_7 ?_
  refine ax_istore_7 (pc := 9) C dX2_whenOfTwo_9 rfl ?_
  refine ax_iconst (pc := 11) (v := 0) C dX2_whenOfTwo_11 (by decide) ?_
  refine ax_istore_8 (pc := 12) C dX2_whenOfTwo_12 rfl ?_
  refine ax_bipush (pc := 14) (v := 11) C dX2_whenOfTwo_14 (by decide) ?_
  refine ax_istore_9 (pc := 16) C dX2_whenOfTwo_16 rfl ?_
  refine ax_iload_2 (pc := 18) C dX2_whenOfTwo_18 ?_
  refine ax_istore_10 (pc := 19) C dX2_whenOfTwo_19 rfl ?_
  refine ax_bipush (pc := 21) (v := 10) C dX2_whenOfTwo_21 (by decide) ?_
  refine ax_istore_11 (pc := 23) C dX2_whenOfTwo_23 rfl ?_
  exact loop 13 0 none none none none (by omega) (by omega)

set_option maxRecDepth 20000 in
set_option maxHeartbeats 4000000 in
theorem w_X2_commonPart {Y : ax_Y} {ad : Nat → Nat} (F : ax_F Y) {l : Launch} {σ : ax_Z} {A B : Nat} (hA : A < 2 ^ 27) (hB : 0 < B) (hB2 : B < 2 ^ 20) : ax_m Y ad l iX2_commonPart 0 σ [.int (nI A), .int (nI B)] (some (.int (nI (Nat.gcd A B)))) σ := by
  refine ax_m.of F kX2_commonPart.1 [some (.int (nI A)), some (.int (nI B)), none, none, none, none] rfl (Nat.le_of_ble_eq_true rfl) (fun x C => ?_)
  have loop : ∀ (q : Nat) (k j g l : Nat) (z : Option Value), l < g → g < 2 ^ 31 → g * l < 2 ^ j → k + j < 64 → Nat.gcd g l = Nat.gcd A B → j < q → ax_S x Y ad 0 0 (ax_Q x Y ad (some (.int (nI (Nat.gcd A B)))) 96 (ax_g Y ad σ) 0 0) σ 7 [some (.int (nI A)), some (.int (nI B)), some (.int (nI g)), some (.int (nI l)), some (.int (nI k)), z] [] := by
    intro q
    induction q with
    | zero => intro k j g l z hgl hg31 hp hkj hG hjq; exfalso; omega
    | succ q ih =>
      intro k j g l z hgl hg31 hp hkj hG hjq
      refine ax_iload_4 (pc := 7) C dX2_commonPart_7 ?_
      refine ax_bipush (pc := 9) (v := 64) C dX2_commonPart_9 (by decide) ?_
      refine ax_icmp_ge (pc := 11) (tgt := 34) C dX2_commonPart_11 (by decide) (fun z => False.elim (nI_ge (a := k) (b := 64) (by omega) (by decide) z)) (fun _ => ?_)
      refine ax_iload_3 (pc := 14) C dX2_commonPart_14 ?_
      refine ax_if_eq (pc := 15) (tgt := 34) C dX2_commonPart_15 (by decide) (fun h15 => ?_) (fun h15 => ?_)
      · have hl0 : l = 0 := (nI_eq (b := 0) (by omega) (by decide)).mp h15
        refine ax_iload_2 (pc := 34) C dX2_commonPart_34 ?_
        refine ax_if_ne (pc := 35) (tgt := 42) C dX2_commonPart_35 (by decide) (fun _ => ?_) (fun z => False.elim (nI_ne0 (n := g) (by omega) (by omega) z))
        refine ax_iload_2 (pc := 42) C dX2_commonPart_42 ?_
        exact ax_ir (pc := 43) C rfl dX2_commonPart_43 (by rw [← hG, hl0, Nat.gcd_zero_right]) rfl
      · have hl0 : 0 < l := Nat.pos_of_ne_zero (fun z => h15 (by rw [z]; rfl))
        have hlr : g % l < l := Nat.mod_lt _ hl0
        refine ax_iload_2 (pc := 18) C dX2_commonPart_18 ?_
        refine ax_iload_3 (pc := 19) C dX2_commonPart_19 ?_
        refine ax_irem (pc := 20) C dX2_commonPart_20 h15 ?_
        refine ax_val C (pk_rem (by omega) hl0 (by omega)) ?_
        refine ax_istore_5 (pc := 21) C dX2_commonPart_21 rfl ?_
        refine ax_iload_3 (pc := 23) C dX2_commonPart_23 ?_
        refine ax_istore_2 (pc := 24) C dX2_commonPart_24 rfl ?_
        refine ax_iload_5 (pc := 25) C dX2_commonPart_25 ?_
        refine ax_istore_3 (pc := 27) C dX2_commonPart_27 rfl ?_
        refine ax_iinc_4 (pc := 28) C dX2_commonPart_28 (1) (by decide) rfl ?_
        refine ax_goto (pc := 31) (tgt := 7) C dX2_commonPart_31 (by decide) ?_
        obtain ⟨q1, rfl⟩ : ∃ q1, j = q1 + 1 := by
          rcases j with _ | j
          · exfalso
            have : 0 < g * l := Nat.mul_pos (by omega) hl0
            omega
          · exact ⟨j, rfl⟩
        refine ax_Leq ?_ (ih (k + 1) q1 l (g % l) (some (.int (nI (g % l)))) hlr (by omega) (gcd_step hgl hl0 hp) (by omega) (by rw [← hG, Nat.gcd_comm g l, Nat.gcd_rec l g, Nat.gcd_comm]) (by omega))
        rw [nI_1]
  have hlr : A % B < B := Nat.mod_lt _ hB
  have hpr : B * (A % B) < 2 ^ 47 := by
    have h1 : A % B ≤ A := Nat.mod_le _ _
    calc B * (A % B) ≤ B * A := Nat.mul_le_mul_left B h1
      _ < 2 ^ 20 * 2 ^ 27 := Nat.mul_lt_mul_of_lt_of_lt hB2 hA
      _ = 2 ^ 47 := by decide
  have first : ax_S x Y ad 0 0 (ax_Q x Y ad (some (.int (nI (Nat.gcd A B)))) 96 (ax_g Y ad σ) 0 0) σ 7 [some (.int (nI A)), some (.int (nI B)), some (.int (nI A)), some (.int (nI B)), some (.int (0)), none] [] := by
    refine ax_iload_4 (pc := 7) C dX2_commonPart_7 ?_
    refine ax_bipush (pc := 9) (v := 64) C dX2_commonPart_9 (by decide) ?_
    refine ax_icmp_ge (pc := 11) (tgt := 34) C dX2_commonPart_11 (by decide) (fun z => False.elim (absurd z (by decide))) (fun _ => ?_)
    refine ax_iload_3 (pc := 14) C dX2_commonPart_14 ?_
    refine ax_if_eq (pc := 15) (tgt := 34) C dX2_commonPart_15 (by decide) (fun z => False.elim (nI_ne0 hB (by omega) z)) (fun _ => ?_)
    refine ax_iload_2 (pc := 18) C dX2_commonPart_18 ?_
    refine ax_iload_3 (pc := 19) C dX2_commonPart_19 ?_
    refine ax_irem (pc := 20) C dX2_commonPart_20 (nI_ne0 hB (by omega)) ?_
    refine ax_val C (pk_rem (by omega) hB (by omega)) ?_
    refine ax_istore_5 (pc := 21) C dX2_commonPart_21 rfl ?_
    refine ax_iload_3 (pc := 23) C dX2_commonPart_23 ?_
    refine ax_istore_2 (pc := 24) C dX2_commonPart_24 rfl ?_
    refine ax_iload_5 (pc := 25) C dX2_commonPart_25 ?_
    refine ax_istore_3 (pc := 27) C dX2_commonPart_27 rfl ?_
    refine ax_iinc_4 (pc := 28) C dX2_commonPart_28 (1) (by decide) rfl ?_
    refine ax_goto (pc := 31) (tgt := 7) C dX2_commonPart_31 (by decide) ?_
    exact loop 48 1 47 B (A % B) (some (.int (nI (A % B)))) hlr (by omega) hpr (by omega) (by rw [Nat.gcd_comm A B, Nat.gcd_rec B A, Nat.gcd_comm]) (by omega)
  refine ax_iload_0 (pc := 0) C dX2_commonPart_0 ?_
  refine ax_istore_2 (pc := 1) C dX2_commonPart_1 rfl ?_
  refine ax_iload_1 (pc := 2) C dX2_commonPart_2 ?_
  refine ax_istore_3 (pc := 3) C dX2_commonPart_3 rfl ?_
  refine ax_iconst (pc := 4) (v := 0) C dX2_commonPart_4 (by decide) ?_
  refine ax_istore_4 (pc := 5) C dX2_commonPart_5 rfl ?_
  exact first
