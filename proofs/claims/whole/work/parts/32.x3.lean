def fe_b (w : Int64) (k : Nat) : Int32 := vp_nar .byte ((w >>> ((8 * nI k).toInt64 &&& 63)).toInt32.toInt8.toInt32)
/-- the tape behind m bytes of n -/
def fe_S (σ : ax_Z) (w : Int64) (t n : Nat) : Nat → ax_Z
  | 0 => σ
  | m + 1 => ax_up (ax_up (fe_S σ w t n m) 3 (t + m) (fe_b w (n - 1 - m))) 2 1 (nI (t + m + 1))
theorem fe_S_l {σ : ax_Z} {w : Int64} {t n m : Nat} (h : σ 2 1 = nI t) : fe_S σ w t n m 2 1 = nI (t + m) := by
  cases m with
  | zero => exact h
  | succ m => rw [fe_S, up_s]; rfl
/-- the first hour from h on, of q, that isn't as told -/
def ju_f (e : Nat → Bool) : Nat → Nat → Int32
  | 0, _ => -1000000
  | q + 1, h => if e h = true then ju_f e q (h + 1) else nI h
theorem ax_12 {n u w : Nat} {a : Int32} (e1 : (12 : Int32) = nI w) (hw : w < 2 ^ 31) : w = 12 := ((nI_eq (a := 12) (by decide) hw).mp e1).symm

set_option maxRecDepth 20000 in
set_option maxHeartbeats 4000000 in
theorem w_X6_two {Y : ax_Y} {ad : Nat → Nat} (F : ax_F Y) {l : Launch} {σ : ax_Z} {n : Nat} (hn : σ 14 10 = nI n) (h6 : n ≤ 6) {a b hr k : Int32} : ax_m Y ad l iX6_two 3 σ [.ref (ad 0), .int a, .int b, .int hr, .int k] (some (.int (if ((0 ≤ a ∧ a ≤ nI n - 1) ∧ (0 ≤ b ∧ b ≤ nI n - 1) ∧ ¬ a = b ∧ (0 ≤ hr ∧ hr ≤ 11) ∧ (0 ≤ k ∧ k ≤ 1)) then (if k = 1 then (tw_f (hs_toll (σ 15) 2) (σ 18 a.toNatClampNeg) (σ 18 b.toNatClampNeg) a b (11 - hr.toNatClampNeg)).2.2.2 else (tw_f (hs_toll (σ 15) 2) (σ 18 a.toNatClampNeg) (σ 18 b.toNatClampNeg) a b (11 - hr.toNatClampNeg)).2.2.1) else -1000001))) σ := by
  refine ax_m.of F kX6_two.1 [some (.ref (ad 0)), some (.int (a)), some (.int (b)), some (.int (hr)), some (.int (k))] rfl (Nat.le_of_ble_eq_true rfl) (fun x C => ?_)
  refine ax_aload_0 (pc := 0) C dX6_two_0 ?_
  refine ax_iload_1 (pc := 1) C dX6_two_1 ?_
  refine ax_callVi (pc := 2) C (w_X6_isCartN F hn) kX6_isCart mX6_146 dX6_two_2 (by decide) rfl rfl rfl rfl rfl (Nat.le_of_ble_eq_true rfl) rfl ⟨Nat.le_refl _, Nat.le_refl _⟩ ?_
  refine ax_if_eq (pc := 5) (tgt := 38) C dX6_two_5 (by decide) (fun h5 => ?_) (fun h5 => ?_)
  · have h5 := ax_beq h5
    refine ax_ldc (pc := 38) C dX6_two_38 qX6_63 ?_
    exact ax_ir (pc := 40) C rfl dX6_two_40 (by first | with_reducible rfl | (simp only [h5, if_true, if_false, true_and, and_true, false_and, and_false, not_false_eq_true, not_true_eq_false, eq_self, not_true_eq_false]; done) | (simp only [h5, if_true, if_false, true_and, and_true, false_and, and_false, not_false_eq_true, not_true_eq_false, eq_self, not_true_eq_false]; with_reducible rfl)) rfl
  · have h5 := ax_bne h5
    refine ax_aload_0 (pc := 8) C dX6_two_8 ?_
    refine ax_iload_2 (pc := 9) C dX6_two_9 ?_
    refine ax_callVi (pc := 10) C (w_X6_isCartN F hn) kX6_isCart mX6_146 dX6_two_10 (by decide) rfl rfl rfl rfl rfl (Nat.le_of_ble_eq_true rfl) rfl ⟨Nat.le_refl _, Nat.le_refl _⟩ ?_
    refine ax_if_eq (pc := 13) (tgt := 38) C dX6_two_13 (by decide) (fun h13 => ?_) (fun h13 => ?_)
    · have h13 := ax_beq h13
      refine ax_ldc (pc := 38) C dX6_two_38 qX6_63 ?_
      exact ax_ir (pc := 40) C rfl dX6_two_40 (by first | with_reducible rfl | (simp only [h5, h13, if_true, if_false, true_and, and_true, false_and, and_false, not_false_eq_true, not_true_eq_false, eq_self, not_true_eq_false]; done) | (simp only [h5, h13, if_true, if_false, true_and, and_true, false_and, and_false, not_false_eq_true, not_true_eq_false, eq_self, not_true_eq_false]; with_reducible rfl)) rfl
    · have h13 := ax_bne h13
      refine ax_iload_1 (pc := 16) C dX6_two_16 ?_
      refine ax_iload_2 (pc := 17) C dX6_two_17 ?_
      refine ax_icmp_eq (pc := 18) (tgt := 38) C dX6_two_18 (by decide) (fun h18 => ?_) (fun h18 => ?_)
      · refine ax_ldc (pc := 38) C dX6_two_38 qX6_63 ?_
        exact ax_ir (pc := 40) C rfl dX6_two_40 (by first | with_reducible rfl | (simp only [h5, h13, h18, if_true, if_false, true_and, and_true, false_and, and_false, not_false_eq_true, not_true_eq_false, eq_self, not_true_eq_false]; done) | (simp only [h5, h13, h18, if_true, if_false, true_and, and_true, false_and, and_false, not_false_eq_true, not_true_eq_false, eq_self, not_true_eq_false]; with_reducible rfl)) rfl
      · refine ax_iload_3 (pc := 21) C dX6_two_21 ?_
        refine ax_callSi (pc := 22) C (w_X6_isHour F) kX6_isHour mX6_195 dX6_two_22 (by decide) rfl rfl (Nat.le_of_ble_eq_true rfl) rfl ⟨Nat.le_refl _, Nat.le_refl _⟩ ?_
        refine ax_if_eq (pc := 25) (tgt := 38) C dX6_two_25 (by decide) (fun h25 => ?_) (fun h25 => ?_)
        · have h25 := ax_beq h25
          refine ax_ldc (pc := 38) C dX6_two_38 qX6_63 ?_
          exact ax_ir (pc := 40) C rfl dX6_two_40 (by first | with_reducible rfl | (simp only [h5, h13, h18, h25, if_true, if_false, true_and, and_true, false_and, and_false, not_false_eq_true, not_true_eq_false, eq_self, not_true_eq_false]; done) | (simp only [h5, h13, h18, h25, if_true, if_false, true_and, and_true, false_and, and_false, not_false_eq_true, not_true_eq_false, eq_self, not_true_eq_false]; with_reducible rfl)) rfl
        · have h25 := ax_bne h25
          refine ax_iload_4 (pc := 28) C dX6_two_28 ?_
          refine ax_iconst (pc := 30) (v := 0) C dX6_two_30 (by decide) ?_
          refine ax_iconst (pc := 31) (v := 1) C dX6_two_31 (by decide) ?_
          refine ax_callSi (pc := 32) C (w_X6_isWithin F) kX6_isWithin mX6_59 dX6_two_32 (by decide) rfl rfl (Nat.le_of_ble_eq_true rfl) rfl ⟨Nat.le_refl _, Nat.le_refl _⟩ ?_
          refine ax_if_ne (pc := 35) (tgt := 41) C dX6_two_35 (by decide) (fun h35 => ?_) (fun h35 => ?_)
          · have h35 := ax_bne h35
            obtain ⟨u, hu, rfl⟩ := ax_ixN (by omega) h5
            have eu : (nI u).toNatClampNeg = u := nI_clamp (by omega)
            obtain ⟨v, hv, rfl⟩ := ax_ixN (by omega) h13
            have ev : (nI v).toNatClampNeg = v := nI_clamp (by omega)
            obtain ⟨t, ht, rfl⟩ := ax_ix (m := 11) (by decide) h25
            have et : (nI t).toNatClampNeg = t := nI_clamp (by omega)
            refine ax_aload_0 (pc := 41) C dX6_two_41 ?_
            refine ax_getR (pc := 42) C fX6_43 dX6_two_42 rfl rfl ?_
            refine ax_aload_0 (pc := 45) C dX6_two_45 ?_
            refine ax_getR (pc := 46) C fX6_25 dX6_two_46 rfl rfl ?_
            refine ax_iload_1 (pc := 49) C dX6_two_49 ?_
            refine ax_iload_2 (pc := 50) C dX6_two_50 ?_
            refine ax_iload_3 (pc := 51) C dX6_two_51 ?_
            refine ax_iload_4 (pc := 52) C dX6_two_52 ?_
            refine ax_iconst (pc := 54) (v := 1) C dX6_two_54 (by decide) ?_
            refine ax_icmp_ne (pc := 55) (tgt := 62) C dX6_two_55 (by decide) (fun h55 => ?_) (fun h55 => ?_)
            · refine ax_iconst (pc := 62) (v := 0) C dX6_two_62 (by decide) ?_
              refine ax_callVi (pc := 63) C (w_X2_whenOfTwo F (by omega) (by omega) (by omega)) kX2_whenOfTwo mX6_202 dX6_two_63 (by decide) rfl rfl rfl rfl rfl (Nat.le_of_ble_eq_true rfl) rfl ⟨Nat.le_refl _, Nat.le_refl _⟩ ?_
              exact ax_ir (pc := 66) C rfl dX6_two_66 (by first | with_reducible rfl | (simp only [h5, h13, h18, h25, h35, h55, if_true, if_false, true_and, and_true, false_and, and_false, not_false_eq_true, not_true_eq_false, eu, ev, et, dz_01, dz_11, dz_10, eq_self, not_false_eq_true]; done) | (simp only [h5, h13, h18, h25, h35, h55, if_true, if_false, true_and, and_true, false_and, and_false, not_false_eq_true, not_true_eq_false, eu, ev, et, dz_01, dz_11, dz_10, eq_self, not_false_eq_true]; with_reducible rfl)) rfl
            · refine ax_iconst (pc := 58) (v := 1) C dX6_two_58 (by decide) ?_
              refine ax_goto (pc := 59) (tgt := 63) C dX6_two_59 (by decide) ?_
              refine ax_callVi (pc := 63) C (w_X2_whenOfTwo F (by omega) (by omega) (by omega)) kX2_whenOfTwo mX6_202 dX6_two_63 (by decide) rfl rfl rfl rfl rfl (Nat.le_of_ble_eq_true rfl) rfl ⟨Nat.le_refl _, Nat.le_refl _⟩ ?_
              exact ax_ir (pc := 66) C rfl dX6_two_66 (by first | with_reducible rfl | (simp only [h5, h13, h18, h25, h35, h55, if_true, if_false, true_and, and_true, false_and, and_false, not_false_eq_true, not_true_eq_false, eu, ev, et, dz_01, dz_11, dz_10, eq_self, not_false_eq_true]; done) | (simp only [h5, h13, h18, h25, h35, h55, if_true, if_false, true_and, and_true, false_and, and_false, not_false_eq_true, not_true_eq_false, eu, ev, et, dz_01, dz_11, dz_10, eq_self, not_false_eq_true]; with_reducible rfl)) rfl
          · have h35 := ax_beq h35
            refine ax_ldc (pc := 38) C dX6_two_38 qX6_63 ?_
            exact ax_ir (pc := 40) C rfl dX6_two_40 (by first | with_reducible rfl | (simp only [h5, h13, h18, h25, h35, if_true, if_false, true_and, and_true, false_and, and_false, not_false_eq_true, not_true_eq_false, eq_self, not_true_eq_false]; done) | (simp only [h5, h13, h18, h25, h35, if_true, if_false, true_and, and_true, false_and, and_false, not_false_eq_true, not_true_eq_false, eq_self, not_true_eq_false]; with_reducible rfl)) rfl

set_option maxRecDepth 20000 in
set_option maxHeartbeats 4000000 in
theorem w_X6_shares {Y : ax_Y} {ad : Nat → Nat} (F : ax_F Y) {l : Launch} {σ : ax_Z} {n : Nat} (hn : σ 14 10 = nI n) (h6 : n ≤ 6) {nn k : Int32} : ax_m Y ad l iX6_shares 4 σ [.ref (ad 0), .int nn, .int k] (some (.int (if σ 14 9 = 0 then -1000002 else if (1 ≤ nn ∧ nn ≤ 6) ∧ -1 ≤ k then (if k = -1 then ax_b (hs_all (hs_hold (σ 15) nn.toNatClampNeg) nn.toNatClampNeg = true) else if k < nn then hs_gs (hs_toll (σ 15) nn.toNatClampNeg) nn.toNatClampNeg (k.toNatClampNeg + 1) - hs_gs (hs_toll (σ 15) nn.toNatClampNeg) nn.toNatClampNeg k.toNatClampNeg else -1000000) else -1000001))) σ := by
  refine ax_m.of F kX6_shares.1 [some (.ref (ad 0)), some (.int (nn)), some (.int (k))] rfl (Nat.le_of_ble_eq_true rfl) (fun x C => ?_)
  refine ax_aload_0 (pc := 0) C dX6_shares_0 ?_
  refine ax_getR (pc := 1) C fX6_25 dX6_shares_1 rfl rfl ?_
  refine ax_getI (pc := 4) C fX6_132 dX6_shares_4 rfl rfl ?_
  refine ax_if_ne (pc := 7) (tgt := 13) C dX6_shares_7 (by decide) (fun h7 => ?_) (fun h7 => ?_)
  · refine ax_iload_1 (pc := 13) C dX6_shares_13 ?_
    refine ax_iconst (pc := 14) (v := 1) C dX6_shares_14 (by decide) ?_
    refine ax_bipush (pc := 15) (v := 6) C dX6_shares_15 (by decide) ?_
    refine ax_callSi (pc := 17) C (w_X6_isWithin F) kX6_isWithin mX6_59 dX6_shares_17 (by decide) rfl rfl (Nat.le_of_ble_eq_true rfl) rfl ⟨Nat.le_refl _, Nat.le_refl _⟩ ?_
    refine ax_if_eq (pc := 20) (tgt := 28) C dX6_shares_20 (by decide) (fun h20 => ?_) (fun h20 => ?_)
    · have h20 := ax_beq h20
      refine ax_ldc (pc := 28) C dX6_shares_28 qX6_63 ?_
      exact ax_ir (pc := 30) C rfl dX6_shares_30 (by rw [if_neg h7, if_neg (fun z => h20 z.1)]) rfl
    · have h20 := ax_bne h20
      refine ax_iload_2 (pc := 23) C dX6_shares_23 ?_
      refine ax_iconst (pc := 24) (v := (-1)) C dX6_shares_24 (by decide) ?_
      refine ax_icmp_ge (pc := 25) (tgt := 31) C dX6_shares_25 (by decide) (fun h25 => ?_) (fun h25 => ?_)
      · refine ax_iload_2 (pc := 31) C dX6_shares_31 ?_
        refine ax_iconst (pc := 32) (v := (-1)) C dX6_shares_32 (by decide) ?_
        refine ax_icmp_ne (pc := 33) (tgt := 53) C dX6_shares_33 (by decide) (fun h33 => ?_) (fun h33 => ?_)
        · refine ax_iload_2 (pc := 53) C dX6_shares_53 ?_
          refine ax_iload_1 (pc := 54) C dX6_shares_54 ?_
          refine ax_icmp_lt (pc := 55) (tgt := 61) C dX6_shares_55 (by decide) (fun h55 => ?_) (fun h55 => ?_)
          · obtain ⟨w, hw, rfl⟩ := ax_ix (m := 6) (by decide) (show 0 ≤ nn ∧ nn ≤ 6 from ⟨Int32.le_trans (by decide) h20.1, h20.2⟩)
            have en : (nI w).toNatClampNeg = w := nI_clamp (by omega)
            have hw0 : 1 ≤ w := (nI_leI (a := 1) (by decide) (by omega)).mp h20.1
            obtain ⟨c, hc, rfl⟩ := nI_of (Int32.not_lt.mpr (ax_m1 h25 h33))
            have hcw : c < w := (nI_ltI hc (by omega)).mp h55
            have ek : (nI c).toNatClampNeg = c := nI_clamp hc
            refine ax_aload_0 (pc := 61) C dX6_shares_61 ?_
            refine ax_getR (pc := 62) C fX6_25 dX6_shares_62 rfl rfl ?_
            refine ax_iload_1 (pc := 65) C dX6_shares_65 ?_
            refine ax_iload_2 (pc := 66) C dX6_shares_66 ?_
            refine ax_iconst (pc := 67) (v := 1) C dX6_shares_67 (by decide) ?_
            refine ax_iadd (pc := 68) C dX6_shares_68 ?_
            refine ax_val C (nI_1 c) ?_
            refine ax_callVi (pc := 69) C (w_X3_greatestShares F ax_now (by omega) (by omega) (by omega)) kX3_greatestShares mX6_209 dX6_shares_69 (by decide) rfl rfl rfl rfl rfl (Nat.le_of_ble_eq_true rfl) rfl ⟨Nat.le_refl _, Nat.le_refl _⟩ ?_
            refine ax_aload_0 (pc := 72) C dX6_shares_72 ?_
            refine ax_getR (pc := 73) C fX6_25 dX6_shares_73 rfl rfl ?_
            refine ax_iload_1 (pc := 76) C dX6_shares_76 ?_
            refine ax_iload_2 (pc := 77) C dX6_shares_77 ?_
            refine ax_callVi (pc := 78) C (w_X3_greatestShares F ax_now (by omega) (by omega) (by omega)) kX3_greatestShares mX6_209 dX6_shares_78 (by decide) rfl rfl rfl rfl rfl (Nat.le_of_ble_eq_true rfl) rfl ⟨Nat.le_refl _, Nat.le_refl _⟩ ?_
            refine ax_isub (pc := 81) C dX6_shares_81 ?_
            exact ax_ir (pc := 82) C rfl dX6_shares_82 (by rw [if_neg h7, if_pos ⟨h20, h25⟩, if_neg h33, if_pos h55, en, ek]) rfl
          · refine ax_ldc (pc := 58) C dX6_shares_58 qX6_152 ?_
            exact ax_ir (pc := 60) C rfl dX6_shares_60 (by rw [if_neg h7, if_pos ⟨h20, h25⟩, if_neg h33, if_neg h55]) rfl
        · obtain ⟨w, hw, rfl⟩ := ax_ix (m := 6) (by decide) (show 0 ≤ nn ∧ nn ≤ 6 from ⟨Int32.le_trans (by decide) h20.1, h20.2⟩)
          have en : (nI w).toNatClampNeg = w := nI_clamp (by omega)
          have hw0 : 1 ≤ w := (nI_leI (a := 1) (by decide) (by omega)).mp h20.1
          refine ax_aload_0 (pc := 36) C dX6_shares_36 ?_
          refine ax_getR (pc := 37) C fX6_25 dX6_shares_37 rfl rfl ?_
          refine ax_iload_1 (pc := 40) C dX6_shares_40 ?_
          refine ax_callVi (pc := 41) C (w_X3_holds F ax_now hw0 (by omega)) kX3_holds mX6_206 dX6_shares_41 (by decide) rfl rfl rfl rfl rfl (Nat.le_of_ble_eq_true rfl) rfl ⟨Nat.le_refl _, Nat.le_refl _⟩ ?_
          refine ax_if_eq (pc := 44) (tgt := 51) C dX6_shares_44 (by decide) (fun h44 => ?_) (fun h44 => ?_)
          · have h44 := ax_beq h44
            refine ax_iconst (pc := 51) (v := 0) C dX6_shares_51 (by decide) ?_
            exact ax_ir (pc := 52) C rfl dX6_shares_52 (by rw [if_neg h7, if_pos ⟨h20, h25⟩, if_pos h33, en]; exact ax_b0 h44) rfl
          · have h44 := ax_bne h44
            refine ax_iconst (pc := 47) (v := 1) C dX6_shares_47 (by decide) ?_
            refine ax_goto (pc := 48) (tgt := 52) C dX6_shares_48 (by decide) ?_
            exact ax_ir (pc := 52) C rfl dX6_shares_52 (by rw [if_neg h7, if_pos ⟨h20, h25⟩, if_pos h33, en]; exact ax_b1 h44) rfl
      · refine ax_ldc (pc := 28) C dX6_shares_28 qX6_63 ?_
        exact ax_ir (pc := 30) C rfl dX6_shares_30 (by rw [if_neg h7, if_neg (fun z => h25 z.2)]) rfl
  · refine ax_ldc (pc := 10) C dX6_shares_10 qX6_135 ?_
    exact ax_ir (pc := 12) C rfl dX6_shares_12 (by rw [if_pos h7]) rfl

set_option maxRecDepth 20000 in
set_option maxHeartbeats 4000000 in
theorem w_X6_ford {Y : ax_Y} {ad : Nat → Nat} (F : ax_F Y) {l : Launch} {σ : ax_Z} {n : Nat} (hn : σ 14 10 = nI n) (h6 : n ≤ 6) {T : Nat} (hT : hs_toll (σ 15) 1 = nI T) (hT9 : T ≤ 99) {Hf : Nat → Nat} (hH : ∀ c, c < n → σ 18 c = nI (Hf c) ∧ Hf c ≤ 20) {cart p q k : Int32} : ax_m Y ad l iX6_ford 3 σ [.ref (ad 0), .int cart, .int p, .int q, .int k] (some (.int (if ((0 ≤ cart ∧ cart ≤ nI n - 1) ∧ (0 ≤ p ∧ p ≤ 100)) ∧ (0 ≤ q ∧ q ≤ 3) ∧ (0 ≤ k ∧ k ≤ 1) then (if k = 0 then nI ((fd_f T (Hf cart.toNatClampNeg) p.toNatClampNeg q.toNatClampNeg) / (Nat.gcd (fd_f T (Hf cart.toNatClampNeg) p.toNatClampNeg q.toNatClampNeg) (100 ^ q.toNatClampNeg))) else nI (100 ^ q.toNatClampNeg / (Nat.gcd (fd_f T (Hf cart.toNatClampNeg) p.toNatClampNeg q.toNatClampNeg) (100 ^ q.toNatClampNeg)))) else -1000001))) σ := by
  refine ax_m.of F kX6_ford.1 [some (.ref (ad 0)), some (.int (cart)), some (.int (p)), some (.int (q)), some (.int (k))] rfl (Nat.le_of_ble_eq_true rfl) (fun x C => ?_)
  refine ax_aload_0 (pc := 0) C dX6_ford_0 ?_
  refine ax_iload_1 (pc := 1) C dX6_ford_1 ?_
  refine ax_callVi (pc := 2) C (w_X6_isCartN F hn) kX6_isCart mX6_146 dX6_ford_2 (by decide) rfl rfl rfl rfl rfl (Nat.le_of_ble_eq_true rfl) rfl ⟨Nat.le_refl _, Nat.le_refl _⟩ ?_
  refine ax_if_eq (pc := 5) (tgt := 18) C dX6_ford_5 (by decide) (fun h5 => ?_) (fun h5 => ?_)
  · have h5 := ax_beq h5
    refine ax_ldc (pc := 18) C dX6_ford_18 qX6_63 ?_
    exact ax_ir (pc := 20) C rfl dX6_ford_20 (by first | with_reducible rfl | (simp only [h5, if_true, if_false, true_and, and_true, false_and, and_false, not_false_eq_true, not_true_eq_false]; done) | (simp only [h5, if_true, if_false, true_and, and_true, false_and, and_false, not_false_eq_true, not_true_eq_false]; with_reducible rfl)) rfl
  · have h5 := ax_bne h5
    refine ax_iload_2 (pc := 8) C dX6_ford_8 ?_
    refine ax_iconst (pc := 9) (v := 0) C dX6_ford_9 (by decide) ?_
    refine ax_bipush (pc := 10) (v := 100) C dX6_ford_10 (by decide) ?_
    refine ax_callSi (pc := 12) C (w_X6_isWithin F) kX6_isWithin mX6_59 dX6_ford_12 (by decide) rfl rfl (Nat.le_of_ble_eq_true rfl) rfl ⟨Nat.le_refl _, Nat.le_refl _⟩ ?_
    refine ax_if_ne (pc := 15) (tgt := 21) C dX6_ford_15 (by decide) (fun h15 => ?_) (fun h15 => ?_)
    · have h15 := ax_bne h15
      refine ax_iload_3 (pc := 21) C dX6_ford_21 ?_
      refine ax_iconst (pc := 22) (v := 0) C dX6_ford_22 (by decide) ?_
      refine ax_iconst (pc := 23) (v := 3) C dX6_ford_23 (by decide) ?_
      refine ax_callSi (pc := 24) C (w_X6_isWithin F) kX6_isWithin mX6_59 dX6_ford_24 (by decide) rfl rfl (Nat.le_of_ble_eq_true rfl) rfl ⟨Nat.le_refl _, Nat.le_refl _⟩ ?_
      refine ax_if_eq (pc := 27) (tgt := 40) C dX6_ford_27 (by decide) (fun h27 => ?_) (fun h27 => ?_)
      · have h27 := ax_beq h27
        refine ax_ldc (pc := 40) C dX6_ford_40 qX6_63 ?_
        exact ax_ir (pc := 42) C rfl dX6_ford_42 (by first | with_reducible rfl | (simp only [h5, h15, h27, if_true, if_false, true_and, and_true, false_and, and_false, not_false_eq_true, not_true_eq_false]; done) | (simp only [h5, h15, h27, if_true, if_false, true_and, and_true, false_and, and_false, not_false_eq_true, not_true_eq_false]; with_reducible rfl)) rfl
      · have h27 := ax_bne h27
        refine ax_iload_4 (pc := 30) C dX6_ford_30 ?_
        refine ax_iconst (pc := 32) (v := 0) C dX6_ford_32 (by decide) ?_
        refine ax_iconst (pc := 33) (v := 1) C dX6_ford_33 (by decide) ?_
        refine ax_callSi (pc := 34) C (w_X6_isWithin F) kX6_isWithin mX6_59 dX6_ford_34 (by decide) rfl rfl (Nat.le_of_ble_eq_true rfl) rfl ⟨Nat.le_refl _, Nat.le_refl _⟩ ?_
        refine ax_if_ne (pc := 37) (tgt := 43) C dX6_ford_37 (by decide) (fun h37 => ?_) (fun h37 => ?_)
        · have h37 := ax_bne h37
          obtain ⟨c, hc, rfl⟩ := ax_ixN (by omega) h5
          have ec : (nI c).toNatClampNeg = c := nI_clamp (by omega)
          obtain ⟨P, hP, rfl⟩ := ax_ix (m := 100) (by decide) h15
          have ep : (nI P).toNatClampNeg = P := nI_clamp (by omega)
          obtain ⟨m, hm, rfl⟩ := ax_ix (m := 3) (by decide) h27
          have eq : (nI m).toNatClampNeg = m := nI_clamp (by omega)
          refine ax_aload_0 (pc := 43) C dX6_ford_43 ?_
          refine ax_getR (pc := 44) C fX6_43 dX6_ford_44 rfl rfl ?_
          refine ax_aload_0 (pc := 47) C dX6_ford_47 ?_
          refine ax_getR (pc := 48) C fX6_25 dX6_ford_48 rfl rfl ?_
          refine ax_iload_1 (pc := 51) C dX6_ford_51 ?_
          refine ax_iload_2 (pc := 52) C dX6_ford_52 ?_
          refine ax_iload_3 (pc := 53) C dX6_ford_53 ?_
          refine ax_iload_4 (pc := 54) C dX6_ford_54 ?_
          refine ax_if_ne (pc := 56) (tgt := 63) C dX6_ford_56 (by decide) (fun h56 => ?_) (fun h56 => ?_)
          · refine ax_iconst (pc := 63) (v := 0) C dX6_ford_63 (by decide) ?_
            refine ax_callVi (pc := 64) C (w_X2_costByFord F (by omega) hT hT9 (hH c hc).1 (hH c hc).2 (by omega) (by omega)) kX2_costByFord mX6_219 dX6_ford_64 (by decide) rfl rfl rfl rfl rfl (Nat.le_of_ble_eq_true rfl) rfl ⟨Nat.le_refl _, Nat.le_refl _⟩ ?_
            exact ax_ir (pc := 67) C rfl dX6_ford_67 (by first | with_reducible rfl | (simp only [h5, h15, h27, h37, h56, if_true, if_false, true_and, and_true, false_and, and_false, not_false_eq_true, not_true_eq_false, ec, ep, eq, dz_01, dz_11, dz_10, eq_self]; done) | (simp only [h5, h15, h27, h37, h56, if_true, if_false, true_and, and_true, false_and, and_false, not_false_eq_true, not_true_eq_false, ec, ep, eq, dz_01, dz_11, dz_10, eq_self]; with_reducible rfl)) rfl
          · refine ax_iconst (pc := 59) (v := 1) C dX6_ford_59 (by decide) ?_
            refine ax_goto (pc := 60) (tgt := 64) C dX6_ford_60 (by decide) ?_
            refine ax_callVi (pc := 64) C (w_X2_costByFord F (by omega) hT hT9 (hH c hc).1 (hH c hc).2 (by omega) (by omega)) kX2_costByFord mX6_219 dX6_ford_64 (by decide) rfl rfl rfl rfl rfl (Nat.le_of_ble_eq_true rfl) rfl ⟨Nat.le_refl _, Nat.le_refl _⟩ ?_
            exact ax_ir (pc := 67) C rfl dX6_ford_67 (by first | with_reducible rfl | (simp only [h5, h15, h27, h37, h56, if_true, if_false, true_and, and_true, false_and, and_false, not_false_eq_true, not_true_eq_false, ec, ep, eq, dz_01, dz_11, dz_10, eq_self]; done) | (simp only [h5, h15, h27, h37, h56, if_true, if_false, true_and, and_true, false_and, and_false, not_false_eq_true, not_true_eq_false, ec, ep, eq, dz_01, dz_11, dz_10, eq_self]; with_reducible rfl)) rfl
        · have h37 := ax_beq h37
          refine ax_ldc (pc := 40) C dX6_ford_40 qX6_63 ?_
          exact ax_ir (pc := 42) C rfl dX6_ford_42 (by first | with_reducible rfl | (simp only [h5, h15, h27, h37, if_true, if_false, true_and, and_true, false_and, and_false, not_false_eq_true, not_true_eq_false]; done) | (simp only [h5, h15, h27, h37, if_true, if_false, true_and, and_true, false_and, and_false, not_false_eq_true, not_true_eq_false]; with_reducible rfl)) rfl
    · have h15 := ax_beq h15
      refine ax_ldc (pc := 18) C dX6_ford_18 qX6_63 ?_
      exact ax_ir (pc := 20) C rfl dX6_ford_20 (by first | with_reducible rfl | (simp only [h5, h15, if_true, if_false, true_and, and_true, false_and, and_false, not_false_eq_true, not_true_eq_false]; done) | (simp only [h5, h15, if_true, if_false, true_and, and_true, false_and, and_false, not_false_eq_true, not_true_eq_false]; with_reducible rfl)) rfl

set_option maxRecDepth 20000 in
set_option maxHeartbeats 4000000 in
theorem w_X6_image {Y : ax_Y} {ad : Nat → Nat} (F : ax_F Y) {l : Launch} {σ : ax_Z} {n : Nat} (hn : σ 14 10 = nI n) (h6 : n ≤ 6) (ht : σ 14 9 = 0 ∨ σ 14 9 = 1) {k : Int32} : ax_m Y ad l iX6_image 3 σ [.ref (ad 0), .int k] (some (.int (if 0 ≤ k ∧ k ≤ 1 then (if σ 14 9 = 0 then -1000002 else 1) else -1000001))) (if 0 ≤ k ∧ k ≤ 1 then (if σ 14 9 = 0 then σ else hp_bc σ (57 + 10 * k.toNatClampNeg) 14) else σ) := by
  refine ax_m.of F kX6_image.1 [some (.ref (ad 0)), some (.int (k))] rfl (Nat.le_of_ble_eq_true rfl) (fun x C => ?_)
  refine ax_iload_1 (pc := 0) C dX6_image_0 ?_
  refine ax_iconst (pc := 1) (v := 0) C dX6_image_1 (by decide) ?_
  refine ax_iconst (pc := 2) (v := 1) C dX6_image_2 (by decide) ?_
  refine ax_callSi (pc := 3) C (w_X6_isWithin F) kX6_isWithin mX6_59 dX6_image_3 (by decide) rfl rfl (Nat.le_of_ble_eq_true rfl) rfl ⟨Nat.le_refl _, Nat.le_refl _⟩ ?_
  refine ax_if_ne (pc := 6) (tgt := 12) C dX6_image_6 (by decide) (fun h6 => ?_) (fun h6 => ?_)
  · have h6 := ax_bne h6
    obtain ⟨c, hc, rfl⟩ := ax_ix (m := 1) (by decide) h6
    have hk : c < 2 := by omega
    have ec : (nI c).toNatClampNeg = c := nI_clamp (by omega)
    refine ax_aload_0 (pc := 12) C dX6_image_12 ?_
    refine ax_getR (pc := 13) C fX6_25 dX6_image_13 rfl rfl ?_
    refine ax_getI (pc := 16) C fX6_132 dX6_image_16 rfl rfl ?_
    refine ax_if_ne (pc := 19) (tgt := 25) C dX6_image_19 (by decide) (fun h19 => ?_) (fun h19 => ?_)
    · refine ax_aload_0 (pc := 25) C dX6_image_25 ?_
      refine ax_getR (pc := 26) C fX6_29 dX6_image_26 rfl rfl ?_
      refine ax_iload_1 (pc := 29) C dX6_image_29 ?_
      refine ax_imgs (pc := 30) C dX6_image_30 hk ?_
      refine ax_aload_0 (pc := 31) C dX6_image_31 ?_
      refine ax_getR (pc := 32) C fX6_25 dX6_image_32 rfl rfl ?_
      refine ax_callVv (pc := 35) C (w_X3_become F (ax_imgP hk) ax_now (by omega) ht) kX3_become mX6_124 dX6_image_35 (by decide) rfl (ax_imgP hk).o rfl rfl rfl (Nat.le_of_ble_eq_true rfl) rfl ⟨Nat.le_refl _, Nat.le_refl _⟩ ?_
      refine ax_iconst (pc := 38) (v := 1) C dX6_image_38 (by decide) ?_
      exact ax_ir (pc := 39) C rfl dX6_image_39 (by first | with_reducible rfl | (simp only [h6, h19, if_true, if_false, true_and, and_true, false_and, and_false, not_false_eq_true, not_true_eq_false, ec]; done) | (simp only [h6, h19, if_true, if_false, true_and, and_true, false_and, and_false, not_false_eq_true, not_true_eq_false, ec]; with_reducible rfl)) (by first | with_reducible rfl | (simp only [h6, h19, if_true, if_false, true_and, and_true, false_and, and_false, not_false_eq_true, not_true_eq_false, ec]; done) | (simp only [h6, h19, if_true, if_false, true_and, and_true, false_and, and_false, not_false_eq_true, not_true_eq_false, ec]; with_reducible rfl))
    · refine ax_ldc (pc := 22) C dX6_image_22 qX6_135 ?_
      exact ax_ir (pc := 24) C rfl dX6_image_24 (by first | with_reducible rfl | (simp only [h6, h19, if_true, if_false, true_and, and_true, false_and, and_false, not_false_eq_true, not_true_eq_false, ec]; done) | (simp only [h6, h19, if_true, if_false, true_and, and_true, false_and, and_false, not_false_eq_true, not_true_eq_false, ec]; with_reducible rfl)) (by first | with_reducible rfl | (simp only [h6, h19, if_true, if_false, true_and, and_true, false_and, and_false, not_false_eq_true, not_true_eq_false, ec]; done) | (simp only [h6, h19, if_true, if_false, true_and, and_true, false_and, and_false, not_false_eq_true, not_true_eq_false, ec]; with_reducible rfl))
  · have h6 := ax_beq h6
    refine ax_ldc (pc := 9) C dX6_image_9 qX6_63 ?_
    exact ax_ir (pc := 11) C rfl dX6_image_11 (by first | with_reducible rfl | (simp only [h6, if_true, if_false, true_and, and_true, false_and, and_false, not_false_eq_true, not_true_eq_false]; done) | (simp only [h6, if_true, if_false, true_and, and_true, false_and, and_false, not_false_eq_true, not_true_eq_false]; with_reducible rfl)) (by first | with_reducible rfl | (simp only [h6, if_true, if_false, true_and, and_true, false_and, and_false, not_false_eq_true, not_true_eq_false]; done) | (simp only [h6, if_true, if_false, true_and, and_true, false_and, and_false, not_false_eq_true, not_true_eq_false]; with_reducible rfl))

set_option maxRecDepth 20000 in
set_option maxHeartbeats 4000000 in
theorem w_X6_restore {Y : ax_Y} {ad : Nat → Nat} (F : ax_F Y) {l : Launch} {σ : ax_Z} (hi : ∀ c, c < 2 → σ (57 + 10 * c) 9 = 0 ∨ σ (57 + 10 * c) 9 = 1) {k : Int32} : ax_m Y ad l iX6_restore 3 σ [.ref (ad 0), .int k] (some (.int (if 0 ≤ k ∧ k ≤ 1 then (if σ (57 + 10 * k.toNatClampNeg) 9 = 0 then -1000002 else 1) else -1000001))) (if 0 ≤ k ∧ k ≤ 1 then (if σ (57 + 10 * k.toNatClampNeg) 9 = 0 then σ else ax_up (hp_bc σ 14 (57 + 10 * k.toNatClampNeg)) 25 2 0) else σ) := by
  refine ax_m.of F kX6_restore.1 [some (.ref (ad 0)), some (.int (k))] rfl (Nat.le_of_ble_eq_true rfl) (fun x C => ?_)
  refine ax_iload_1 (pc := 0) C dX6_restore_0 ?_
  refine ax_iconst (pc := 1) (v := 0) C dX6_restore_1 (by decide) ?_
  refine ax_iconst (pc := 2) (v := 1) C dX6_restore_2 (by decide) ?_
  refine ax_callSi (pc := 3) C (w_X6_isWithin F) kX6_isWithin mX6_59 dX6_restore_3 (by decide) rfl rfl (Nat.le_of_ble_eq_true rfl) rfl ⟨Nat.le_refl _, Nat.le_refl _⟩ ?_
  refine ax_if_ne (pc := 6) (tgt := 12) C dX6_restore_6 (by decide) (fun h6 => ?_) (fun h6 => ?_)
  · have h6 := ax_bne h6
    obtain ⟨c, hc, rfl⟩ := ax_ix (m := 1) (by decide) h6
    have hk : c < 2 := by omega
    have ec : (nI c).toNatClampNeg = c := nI_clamp (by omega)
    refine ax_aload_0 (pc := 12) C dX6_restore_12 ?_
    refine ax_getR (pc := 13) C fX6_29 dX6_restore_13 rfl rfl ?_
    refine ax_iload_1 (pc := 16) C dX6_restore_16 ?_
    refine ax_imgs (pc := 17) C dX6_restore_17 hk ?_
    refine ax_getI (pc := 18) C fX6_132 dX6_restore_18 (ax_imgP hk).o rfl ?_
    refine ax_if_ne (pc := 21) (tgt := 27) C dX6_restore_21 (by decide) (fun h21 => ?_) (fun h21 => ?_)
    · refine ax_aload_0 (pc := 27) C dX6_restore_27 ?_
      refine ax_getR (pc := 28) C fX6_25 dX6_restore_28 rfl rfl ?_
      refine ax_aload_0 (pc := 31) C dX6_restore_31 ?_
      refine ax_getR (pc := 32) C fX6_29 dX6_restore_32 rfl rfl ?_
      refine ax_iload_1 (pc := 35) C dX6_restore_35 ?_
      refine ax_imgs (pc := 36) C dX6_restore_36 hk ?_
      refine ax_callVv (pc := 37) C (w_X3_become F ax_now (ax_imgP hk) (by omega) (hi c hk)) kX3_become mX6_124 dX6_restore_37 (by decide) rfl rfl rfl rfl rfl (Nat.le_of_ble_eq_true rfl) rfl ⟨Nat.le_refl _, Nat.le_refl _⟩ ?_
      refine ax_aload_0 (pc := 40) C dX6_restore_40 ?_
      refine ax_getR (pc := 41) C fX6_36 dX6_restore_41 rfl rfl ?_
      refine ax_iconst (pc := 44) (v := 0) C dX6_restore_44 (by decide) ?_
      refine ax_putI (pc := 45) C fX6_128 dX6_restore_45 rfl rfl rfl rfl ?_
      refine ax_iconst (pc := 48) (v := 1) C dX6_restore_48 (by decide) ?_
      exact ax_ir (pc := 49) C rfl dX6_restore_49 (by first | with_reducible rfl | (simp only [h6, h21, if_true, if_false, true_and, and_true, false_and, and_false, not_false_eq_true, not_true_eq_false, ec]; done) | (simp only [h6, h21, if_true, if_false, true_and, and_true, false_and, and_false, not_false_eq_true, not_true_eq_false, ec]; with_reducible rfl)) (by first | with_reducible rfl | (simp only [h6, h21, if_true, if_false, true_and, and_true, false_and, and_false, not_false_eq_true, not_true_eq_false, ec]; done) | (simp only [h6, h21, if_true, if_false, true_and, and_true, false_and, and_false, not_false_eq_true, not_true_eq_false, ec]; with_reducible rfl))
    · refine ax_ldc (pc := 24) C dX6_restore_24 qX6_135 ?_
      exact ax_ir (pc := 26) C rfl dX6_restore_26 (by first | with_reducible rfl | (simp only [h6, h21, if_true, if_false, true_and, and_true, false_and, and_false, not_false_eq_true, not_true_eq_false, ec]; done) | (simp only [h6, h21, if_true, if_false, true_and, and_true, false_and, and_false, not_false_eq_true, not_true_eq_false, ec]; with_reducible rfl)) (by first | with_reducible rfl | (simp only [h6, h21, if_true, if_false, true_and, and_true, false_and, and_false, not_false_eq_true, not_true_eq_false, ec]; done) | (simp only [h6, h21, if_true, if_false, true_and, and_true, false_and, and_false, not_false_eq_true, not_true_eq_false, ec]; with_reducible rfl))
  · have h6 := ax_beq h6
    refine ax_ldc (pc := 9) C dX6_restore_9 qX6_63 ?_
    exact ax_ir (pc := 11) C rfl dX6_restore_11 (by first | with_reducible rfl | (simp only [h6, if_true, if_false, true_and, and_true, false_and, and_false, not_false_eq_true, not_true_eq_false]; done) | (simp only [h6, if_true, if_false, true_and, and_true, false_and, and_false, not_false_eq_true, not_true_eq_false]; with_reducible rfl)) (by first | with_reducible rfl | (simp only [h6, if_true, if_false, true_and, and_true, false_and, and_false, not_false_eq_true, not_true_eq_false]; done) | (simp only [h6, if_true, if_false, true_and, and_true, false_and, and_false, not_false_eq_true, not_true_eq_false]; with_reducible rfl))

set_option maxRecDepth 20000 in
set_option maxHeartbeats 4000000 in
theorem w_X6_copy {Y : ax_Y} {ad : Nat → Nat} (F : ax_F Y) {l : Launch} {σ : ax_Z} {a i b j n : Int32} (hlen : ∀ c, c < 8 → ∃ len, len ≤ 40 ∧ σ (41 + 2 * c) 3 = nI len) : ax_m Y ad l iX6_copy 2 σ [.ref (ad 0), .int a, .int i, .int b, .int j, .int n] (some (.int (if (0 ≤ a ∧ a ≤ 7) ∧ (0 ≤ b ∧ b ≤ 7) then (if ¬ σ (41 + 2 * a.toNatClampNeg) 1 = 0 ∧ ¬ σ (41 + 2 * b.toNatClampNeg) 1 = 0 then (if σ (41 + 2 * a.toNatClampNeg) 2 = σ (41 + 2 * b.toNatClampNeg) 2 then (if (0 ≤ i ∧ 0 ≤ n ∧ i ≤ σ (41 + 2 * a.toNatClampNeg) 3 ∧ n ≤ σ (41 + 2 * a.toNatClampNeg) 3 - i) ∧ (0 ≤ j ∧ 0 ≤ n ∧ j ≤ σ (41 + 2 * b.toNatClampNeg) 3 ∧ n ≤ σ (41 + 2 * b.toNatClampNeg) 3 - j) then n else -1000010 - 2) else -1000010 - 5) else -1000010 - 1) else -1000001))) (if (0 ≤ a ∧ a ≤ 7) ∧ (0 ≤ b ∧ b ≤ 7) then (if ¬ σ (41 + 2 * a.toNatClampNeg) 1 = 0 ∧ ¬ σ (41 + 2 * b.toNatClampNeg) 1 = 0 then (if σ (41 + 2 * a.toNatClampNeg) 2 = σ (41 + 2 * b.toNatClampNeg) 2 then (if (0 ≤ i ∧ 0 ≤ n ∧ i ≤ σ (41 + 2 * a.toNatClampNeg) 3 ∧ n ≤ σ (41 + 2 * a.toNatClampNeg) 3 - i) ∧ (0 ≤ j ∧ 0 ≤ n ∧ j ≤ σ (41 + 2 * b.toNatClampNeg) 3 ∧ n ≤ σ (41 + 2 * b.toNatClampNeg) 3 - j) then ax_up (ax_cp σ (42 + 2 * a.toNatClampNeg) (42 + 2 * b.toNatClampNeg) i.toNatClampNeg j.toNatClampNeg n.toNatClampNeg) 0 8 0 else ax_up σ 0 8 2) else ax_up σ 0 8 5) else ax_up σ 0 8 1) else σ) := by
  refine ax_m.of F kX6_copy.1 [some (.ref (ad 0)), some (.int (a)), some (.int (i)), some (.int (b)), some (.int (j)), some (.int (n)), none, none] rfl (Nat.le_of_ble_eq_true rfl) (fun x C => ?_)
  refine ax_iload_1 (pc := 0) C dX6_copy_0 ?_
  refine ax_callSi (pc := 1) C (w_X6_isRow F) kX6_isRow mX6_55 dX6_copy_1 (by decide) rfl rfl (Nat.le_of_ble_eq_true rfl) rfl ⟨Nat.le_refl _, Nat.le_refl _⟩ ?_
  refine ax_if_eq (pc := 4) (tgt := 14) C dX6_copy_4 (by decide) (fun h4 => ?_) (fun h4 => ?_)
  · have h4 := ax_beq h4
    refine ax_ldc (pc := 14) C dX6_copy_14 qX6_63 ?_
    exact ax_ir (pc := 16) C rfl dX6_copy_16 (by first | with_reducible rfl | (simp only [h4, if_true, if_false, true_and, and_true, false_and, and_false, not_false_eq_true, not_true_eq_false, and_self]; done) | (simp only [h4, if_true, if_false, true_and, and_true, false_and, and_false, not_false_eq_true, not_true_eq_false, and_self]; with_reducible rfl)) (by first | with_reducible rfl | (simp only [h4, if_true, if_false, true_and, and_true, false_and, and_false, not_false_eq_true, not_true_eq_false, and_self]; done) | (simp only [h4, if_true, if_false, true_and, and_true, false_and, and_false, not_false_eq_true, not_true_eq_false, and_self]; with_reducible rfl))
  · have h4 := ax_bne h4
    refine ax_iload_3 (pc := 7) C dX6_copy_7 ?_
    refine ax_callSi (pc := 8) C (w_X6_isRow F) kX6_isRow mX6_55 dX6_copy_8 (by decide) rfl rfl (Nat.le_of_ble_eq_true rfl) rfl ⟨Nat.le_refl _, Nat.le_refl _⟩ ?_
    refine ax_if_ne (pc := 11) (tgt := 17) C dX6_copy_11 (by decide) (fun h11 => ?_) (fun h11 => ?_)
    · have h11 := ax_bne h11
      obtain ⟨A, hA, rfl⟩ := ax_ix (m := 7) (by decide) h4
      have hA : A < 8 := by omega
      have eA : (nI A).toNatClampNeg = A := nI_clamp (by omega)
      obtain ⟨B, hB, rfl⟩ := ax_ix (m := 7) (by decide) h11
      have hB : B < 8 := by omega
      have eB : (nI B).toNatClampNeg = B := nI_clamp (by omega)
      obtain ⟨la, hla1, hla2⟩ := hlen A hA
      obtain ⟨lb, hlb1, hlb2⟩ := hlen B hB
      refine ax_aload_0 (pc := 17) C dX6_copy_17 ?_
      refine ax_getR (pc := 18) C fX6_11 dX6_copy_18 rfl rfl ?_
      refine ax_iload_1 (pc := 21) C dX6_copy_21 ?_
      refine ax_rows (pc := 22) C dX6_copy_22 hA ?_
      refine ax_astore_6 (pc := 23) C dX6_copy_23 rfl ?_
      refine ax_aload_0 (pc := 25) C dX6_copy_25 ?_
      refine ax_getR (pc := 26) C fX6_11 dX6_copy_26 rfl rfl ?_
      refine ax_iload_3 (pc := 29) C dX6_copy_29 ?_
      refine ax_rows (pc := 30) C dX6_copy_30 hB ?_
      refine ax_astore_7 (pc := 31) C dX6_copy_31 rfl ?_
      refine ax_aload_6 (pc := 33) C dX6_copy_33 ?_
      refine ax_getI (pc := 35) C fX6_76 dX6_copy_35 (ax_rowO hA) rfl ?_
      refine ax_if_eq (pc := 38) (tgt := 49) C dX6_copy_38 (by decide) (fun h38 => ?_) (fun h38 => ?_)
      · refine ax_aload_0 (pc := 49) C dX6_copy_49 ?_
        refine ax_iconst (pc := 50) (v := 1) C dX6_copy_50 (by decide) ?_
        refine ax_callVi (pc := 51) C (w_X6_found F) kX6_found mX6_64 dX6_copy_51 (by decide) rfl rfl rfl rfl rfl (Nat.le_of_ble_eq_true rfl) rfl ⟨Nat.le_refl _, Nat.le_refl _⟩ ?_
        exact ax_ir (pc := 54) C rfl dX6_copy_54 (by first | with_reducible rfl | (simp only [h4, h11, h38, if_true, if_false, true_and, and_true, false_and, and_false, not_false_eq_true, not_true_eq_false, eA, eB, and_self]; done) | (simp only [h4, h11, h38, if_true, if_false, true_and, and_true, false_and, and_false, not_false_eq_true, not_true_eq_false, eA, eB, and_self]; with_reducible rfl)) (by first | with_reducible rfl | (simp only [h4, h11, h38, if_true, if_false, true_and, and_true, false_and, and_false, not_false_eq_true, not_true_eq_false, eA, eB, and_self]; done) | (simp only [h4, h11, h38, if_true, if_false, true_and, and_true, false_and, and_false, not_false_eq_true, not_true_eq_false, eA, eB, and_self]; with_reducible rfl))
      · refine ax_aload_7 (pc := 41) C dX6_copy_41 ?_
        refine ax_getI (pc := 43) C fX6_76 dX6_copy_43 (ax_rowO hB) rfl ?_
        refine ax_if_ne (pc := 46) (tgt := 55) C dX6_copy_46 (by decide) (fun h46 => ?_) (fun h46 => ?_)
        · refine ax_aload_6 (pc := 55) C dX6_copy_55 ?_
          refine ax_getI (pc := 57) C fX6_91 dX6_copy_57 (ax_rowO hA) rfl ?_
          refine ax_aload_7 (pc := 60) C dX6_copy_60 ?_
          refine ax_getI (pc := 62) C fX6_91 dX6_copy_62 (ax_rowO hB) rfl ?_
          refine ax_icmp_eq (pc := 65) (tgt := 74) C dX6_copy_65 (by decide) (fun h65 => ?_) (fun h65 => ?_)
          · refine ax_aload_6 (pc := 74) C dX6_copy_74 ?_
            refine ax_iload_2 (pc := 76) C dX6_copy_76 ?_
            refine ax_iload_5 (pc := 77) C dX6_copy_77 ?_
            refine ax_callVi (pc := 79) C (w_X5_hasPlaces F hA) kX5_hasPlaces mX6_80 dX6_copy_79 (by decide) rfl (ax_rowO hA) rfl rfl rfl (Nat.le_of_ble_eq_true rfl) rfl ⟨Nat.le_refl _, Nat.le_refl _⟩ ?_
            refine ax_if_eq (pc := 82) (tgt := 97) C dX6_copy_82 (by decide) (fun h82 => ?_) (fun h82 => ?_)
            · have h82 := ax_beq h82
              refine ax_aload_0 (pc := 97) C dX6_copy_97 ?_
              refine ax_iconst (pc := 98) (v := 2) C dX6_copy_98 (by decide) ?_
              refine ax_callVi (pc := 99) C (w_X6_found F) kX6_found mX6_64 dX6_copy_99 (by decide) rfl rfl rfl rfl rfl (Nat.le_of_ble_eq_true rfl) rfl ⟨Nat.le_refl _, Nat.le_refl _⟩ ?_
              exact ax_ir (pc := 102) C rfl dX6_copy_102 (by first | with_reducible rfl | (simp only [h4, h11, h38, h46, h65, h82, if_true, if_false, true_and, and_true, false_and, and_false, not_false_eq_true, not_true_eq_false, eA, eB, and_self]; done) | (simp only [h4, h11, h38, h46, h65, h82, if_true, if_false, true_and, and_true, false_and, and_false, not_false_eq_true, not_true_eq_false, eA, eB, and_self]; with_reducible rfl)) (by first | with_reducible rfl | (simp only [h4, h11, h38, h46, h65, h82, if_true, if_false, true_and, and_true, false_and, and_false, not_false_eq_true, not_true_eq_false, eA, eB, and_self]; done) | (simp only [h4, h11, h38, h46, h65, h82, if_true, if_false, true_and, and_true, false_and, and_false, not_false_eq_true, not_true_eq_false, eA, eB, and_self]; with_reducible rfl))
            · have h82 := ax_bne h82
              refine ax_aload_7 (pc := 85) C dX6_copy_85 ?_
              refine ax_iload_4 (pc := 87) C dX6_copy_87 ?_
              refine ax_iload_5 (pc := 89) C dX6_copy_89 ?_
              refine ax_callVi (pc := 91) C (w_X5_hasPlaces F hB) kX5_hasPlaces mX6_80 dX6_copy_91 (by decide) rfl (ax_rowO hB) rfl rfl rfl (Nat.le_of_ble_eq_true rfl) rfl ⟨Nat.le_refl _, Nat.le_refl _⟩ ?_
              refine ax_if_ne (pc := 94) (tgt := 103) C dX6_copy_94 (by decide) (fun h94 => ?_) (fun h94 => ?_)
              · have h94 := ax_bne h94
                obtain ⟨u, w, rfl, rfl, hu⟩ := ax_plc hla2 hla1 h82
                obtain ⟨v, w2, rfl, e2, hv⟩ := ax_plc hlb2 hlb1 h94
                have hww : w = w2 := (nI_eq (by omega) (by omega)).mp e2
                subst hww
                have eu : (nI u).toNatClampNeg = u := nI_clamp (by omega)
                have ev : (nI v).toNatClampNeg = v := nI_clamp (by omega)
                have ew : (nI w).toNatClampNeg = w := nI_clamp (by omega)
                refine ax_aload_6 (pc := 103) C dX6_copy_103 ?_
                refine ax_getR (pc := 105) C fX6_84 dX6_copy_105 (ax_rowO hA) rfl ?_
                refine ax_iload_2 (pc := 108) C dX6_copy_108 ?_
                refine ax_aload_7 (pc := 109) C dX6_copy_109 ?_
                refine ax_getR (pc := 111) C fX6_84 dX6_copy_111 (ax_rowO hB) rfl ?_
                refine ax_iload_4 (pc := 114) C dX6_copy_114 ?_
                refine ax_iload_5 (pc := 116) C dX6_copy_116 ?_
                refine ax_copy (pc := 118) C (by decide) ac_X6 dX6_copy_118 (ax_rowA hA) (ax_rowA hB) (by omega) (by omega) (by decide) (by decide) (Nat.le_of_ble_eq_true rfl) rfl ?_
                refine ax_aload_0 (pc := 121) C dX6_copy_121 ?_
                refine ax_iconst (pc := 122) (v := 0) C dX6_copy_122 (by decide) ?_
                refine ax_putI (pc := 123) C fX6_72 dX6_copy_123 rfl rfl rfl rfl ?_
                refine ax_iload_5 (pc := 126) C dX6_copy_126 ?_
                exact ax_ir (pc := 128) C rfl dX6_copy_128 (by first | with_reducible rfl | (simp only [h4, h11, h38, h46, h65, h82, h94, if_true, if_false, true_and, and_true, false_and, and_false, not_false_eq_true, not_true_eq_false, eA, eB, eu, ev, ew]; done) | (simp only [h4, h11, h38, h46, h65, h82, h94, if_true, if_false, true_and, and_true, false_and, and_false, not_false_eq_true, not_true_eq_false, eA, eB, eu, ev, ew]; with_reducible rfl)) (by first | with_reducible rfl | (simp only [h4, h11, h38, h46, h65, h82, h94, if_true, if_false, true_and, and_true, false_and, and_false, not_false_eq_true, not_true_eq_false, eA, eB, eu, ev, ew]; done) | (simp only [h4, h11, h38, h46, h65, h82, h94, if_true, if_false, true_and, and_true, false_and, and_false, not_false_eq_true, not_true_eq_false, eA, eB, eu, ev, ew]; with_reducible rfl))
              · have h94 := ax_beq h94
                refine ax_aload_0 (pc := 97) C dX6_copy_97 ?_
                refine ax_iconst (pc := 98) (v := 2) C dX6_copy_98 (by decide) ?_
                refine ax_callVi (pc := 99) C (w_X6_found F) kX6_found mX6_64 dX6_copy_99 (by decide) rfl rfl rfl rfl rfl (Nat.le_of_ble_eq_true rfl) rfl ⟨Nat.le_refl _, Nat.le_refl _⟩ ?_
                exact ax_ir (pc := 102) C rfl dX6_copy_102 (by simp only [eA, eB]; rw [if_pos ⟨h4, h11⟩, if_pos ⟨h38, h46⟩, if_pos h65, if_neg (fun z => h94 z.2)]) (by simp only [eA, eB]; rw [if_pos ⟨h4, h11⟩, if_pos ⟨h38, h46⟩, if_pos h65, if_neg (fun z => h94 z.2)])
          · refine ax_aload_0 (pc := 68) C dX6_copy_68 ?_
            refine ax_iconst (pc := 69) (v := 5) C dX6_copy_69 (by decide) ?_
            refine ax_callVi (pc := 70) C (w_X6_found F) kX6_found mX6_64 dX6_copy_70 (by decide) rfl rfl rfl rfl rfl (Nat.le_of_ble_eq_true rfl) rfl ⟨Nat.le_refl _, Nat.le_refl _⟩ ?_
            exact ax_ir (pc := 73) C rfl dX6_copy_73 (by first | with_reducible rfl | (simp only [h4, h11, h38, h46, h65, if_true, if_false, true_and, and_true, false_and, and_false, not_false_eq_true, not_true_eq_false, eA, eB, and_self]; done) | (simp only [h4, h11, h38, h46, h65, if_true, if_false, true_and, and_true, false_and, and_false, not_false_eq_true, not_true_eq_false, eA, eB, and_self]; with_reducible rfl)) (by first | with_reducible rfl | (simp only [h4, h11, h38, h46, h65, if_true, if_false, true_and, and_true, false_and, and_false, not_false_eq_true, not_true_eq_false, eA, eB, and_self]; done) | (simp only [h4, h11, h38, h46, h65, if_true, if_false, true_and, and_true, false_and, and_false, not_false_eq_true, not_true_eq_false, eA, eB, and_self]; with_reducible rfl))
        · refine ax_aload_0 (pc := 49) C dX6_copy_49 ?_
          refine ax_iconst (pc := 50) (v := 1) C dX6_copy_50 (by decide) ?_
          refine ax_callVi (pc := 51) C (w_X6_found F) kX6_found mX6_64 dX6_copy_51 (by decide) rfl rfl rfl rfl rfl (Nat.le_of_ble_eq_true rfl) rfl ⟨Nat.le_refl _, Nat.le_refl _⟩ ?_
          exact ax_ir (pc := 54) C rfl dX6_copy_54 (by first | with_reducible rfl | (simp only [h4, h11, h38, h46, if_true, if_false, true_and, and_true, false_and, and_false, not_false_eq_true, not_true_eq_false, eA, eB, and_self]; done) | (simp only [h4, h11, h38, h46, if_true, if_false, true_and, and_true, false_and, and_false, not_false_eq_true, not_true_eq_false, eA, eB, and_self]; with_reducible rfl)) (by first | with_reducible rfl | (simp only [h4, h11, h38, h46, if_true, if_false, true_and, and_true, false_and, and_false, not_false_eq_true, not_true_eq_false, eA, eB, and_self]; done) | (simp only [h4, h11, h38, h46, if_true, if_false, true_and, and_true, false_and, and_false, not_false_eq_true, not_true_eq_false, eA, eB, and_self]; with_reducible rfl))
    · have h11 := ax_beq h11
      refine ax_ldc (pc := 14) C dX6_copy_14 qX6_63 ?_
      exact ax_ir (pc := 16) C rfl dX6_copy_16 (by first | with_reducible rfl | (simp only [h4, h11, if_true, if_false, true_and, and_true, false_and, and_false, not_false_eq_true, not_true_eq_false, and_self]; done) | (simp only [h4, h11, if_true, if_false, true_and, and_true, false_and, and_false, not_false_eq_true, not_true_eq_false, and_self]; with_reducible rfl)) (by first | with_reducible rfl | (simp only [h4, h11, if_true, if_false, true_and, and_true, false_and, and_false, not_false_eq_true, not_true_eq_false, and_self]; done) | (simp only [h4, h11, if_true, if_false, true_and, and_true, false_and, and_false, not_false_eq_true, not_true_eq_false, and_self]; with_reducible rfl))

set_option maxRecDepth 20000 in
set_option maxHeartbeats 4000000 in
theorem w_X6_feed {Y : ax_Y} {ad : Nat → Nat} (F : ax_F Y) {l : Launch} {σ : ax_Z} {w : Int64} {n : Int32} {t : Nat} (ht : σ 2 1 = nI t) (ht4 : t ≤ 400) : ax_m Y ad l iX6_feed 1 σ [.ref (ad 0), .long w, .int n] (some (.int (if 1 ≤ n ∧ n ≤ 8 then (if n ≤ 400 - nI t then nI (t + n.toNatClampNeg) else -1000003) else -1000001))) (if 1 ≤ n ∧ n ≤ 8 then (if n ≤ 400 - nI t then fe_S σ w t n.toNatClampNeg n.toNatClampNeg else σ) else σ) := by
  refine ax_m.of F kX6_feed.1 [some (.ref (ad 0)), some (.long w), none, some (.int (n)), none] rfl (Nat.le_of_ble_eq_true rfl) (fun x C => ?_)
  refine ax_iload_3 (pc := 0) C dX6_feed_0 ?_
  refine ax_iconst (pc := 1) (v := 1) C dX6_feed_1 (by decide) ?_
  refine ax_bipush (pc := 2) (v := 8) C dX6_feed_2 (by decide) ?_
  refine ax_callSi (pc := 4) C (w_X6_isWithin F) kX6_isWithin mX6_59 dX6_feed_4 (by decide) rfl rfl (Nat.le_of_ble_eq_true rfl) rfl ⟨Nat.le_refl _, Nat.le_refl _⟩ ?_
  refine ax_if_ne (pc := 7) (tgt := 13) C dX6_feed_7 (by decide) (fun h7 => ?_) (fun h7 => ?_)
  · have h7 := ax_bne h7
    refine ax_iload_3 (pc := 13) C dX6_feed_13 ?_
    refine ax_sipush (pc := 14) (v := 400) C dX6_feed_14 (by decide) ?_
    refine ax_aload_0 (pc := 17) C dX6_feed_17 ?_
    refine ax_getR (pc := 18) C fX6_18 dX6_feed_18 rfl rfl ?_
    refine ax_getI (pc := 21) C fX6_103 dX6_feed_21 rfl rfl ?_
    refine ax_val C ht ?_
    refine ax_isub (pc := 24) C dX6_feed_24 ?_
    refine ax_icmp_le (pc := 25) (tgt := 31) C dX6_feed_25 (by decide) (fun h25 => ?_) (fun h25 => ?_)
    · obtain ⟨N, hN, rfl⟩ := ax_ix (m := 8) (by decide) (show 0 ≤ n ∧ n ≤ 8 from ⟨Int32.le_trans (by decide) h7.1, h7.2⟩)
      have eN : (nI N).toNatClampNeg = N := nI_clamp (by omega)
      have hNt : t + N ≤ 400 := by
        rw [show (400 : Int32) = nI 400 from rfl, pk_sub ht4, nI_leI (by omega) (by omega)] at h25
        omega
      rw [if_pos h7, if_pos h25, if_pos h7, if_pos h25, eN]
      refine ax_iload_3 (pc := 31) C dX6_feed_31 ?_
      refine ax_iconst (pc := 32) (v := 1) C dX6_feed_32 (by decide) ?_
      refine ax_isub (pc := 33) C dX6_feed_33 ?_
      refine ax_istore_4 (pc := 34) C dX6_feed_34 rfl ?_
      have loop : ∀ (q : Nat) (k m : Nat), k + m = N → k < q → ax_S x Y ad 0 0 (ax_Q x Y ad (some (.int (nI (t + N)))) 96 (ax_g Y ad (fe_S σ w t N N)) 0 0) (fe_S σ w t N m) 36 [some (.ref (ad 0)), some (.long w), none, some (.int (nI N)), some (.int (nI k - 1))] [] := by
        intro q
        induction q with
        | zero => intro k m h1 h2; exfalso; omega
        | succ q ih =>
          intro k m h1 h2
          refine ax_iload_4 (pc := 36) C dX6_feed_36 ?_
          refine ax_if_lt (pc := 38) (tgt := 84) C dX6_feed_38 (by decide) (fun h38 => ?_) (fun h38 => ?_)
          · have hk0 : k = 0 := by
              rcases Nat.eq_zero_or_pos k with z | z
              · exact z
              · obtain ⟨k1, rfl⟩ : ∃ k1, k = k1 + 1 := ⟨k - 1, by omega⟩
                rw [nI_pred] at h38
                exact absurd h38 (nI_pos (by omega))
            refine ax_aload_0 (pc := 84) C dX6_feed_84 ?_
            refine ax_getR (pc := 85) C fX6_18 dX6_feed_85 rfl rfl ?_
            refine ax_getI (pc := 88) C fX6_103 dX6_feed_88 rfl rfl ?_
            refine ax_val C (fe_S_l ht) ?_
            exact ax_ir (pc := 91) C rfl dX6_feed_91 (by rw [show m = N by omega]) (by rw [show m = N by omega])
          · obtain ⟨k1, rfl⟩ : ∃ k1, k = k1 + 1 := by
              rcases k with _ | k1
              · exact absurd (show (0 : Int32) - 1 < 0 by decide) h38
              · exact ⟨k1, rfl⟩
            rw [nI_pred]
            refine ax_aload_0 (pc := 41) C dX6_feed_41 ?_
            refine ax_getR (pc := 42) C fX6_18 dX6_feed_42 rfl rfl ?_
            refine ax_getR (pc := 45) C fX6_105 dX6_feed_45 rfl rfl ?_
            refine ax_aload_0 (pc := 48) C dX6_feed_48 ?_
            refine ax_getR (pc := 49) C fX6_18 dX6_feed_49 rfl rfl ?_
            refine ax_getI (pc := 52) C fX6_103 dX6_feed_52 rfl rfl ?_
            refine ax_val C (fe_S_l ht) ?_
            refine ax_lload_1 (pc := 55) C dX6_feed_55 ?_
            refine ax_bipush (pc := 56) (v := 8) C dX6_feed_56 (by decide) ?_
            refine ax_iload_4 (pc := 58) C dX6_feed_58 ?_
            refine ax_imul (pc := 60) C dX6_feed_60 ?_
            refine ax_lshr (pc := 61) C dX6_feed_61 ?_
            refine ax_l2i (pc := 62) C dX6_feed_62 ?_
            refine ax_i2b (pc := 63) C dX6_feed_63 ?_
            refine ax_bas (pc := 64) C dX6_feed_64 rfl (by omega) (by decide) ?_
            refine ax_aload_0 (pc := 65) C dX6_feed_65 ?_
            refine ax_getR (pc := 66) C fX6_18 dX6_feed_66 rfl rfl ?_
            refine ax_dup (pc := 69) C dX6_feed_69 rfl ?_
            refine ax_getI (pc := 70) C fX6_103 dX6_feed_70 rfl rfl ?_
            refine ax_val C (show _ = nI (t + m) by rw [up_ne (by decide)]; exact fe_S_l ht) ?_
            refine ax_iconst (pc := 73) (v := 1) C dX6_feed_73 (by decide) ?_
            refine ax_iadd (pc := 74) C dX6_feed_74 ?_
            refine ax_val C (nI_1 (t + m)) ?_
            refine ax_putI (pc := 75) C fX6_103 dX6_feed_75 rfl rfl rfl rfl ?_
            refine ax_iinc_4 (pc := 78) C dX6_feed_78 (-1) (by decide) rfl ?_
            refine ax_goto (pc := 81) (tgt := 36) C dX6_feed_81 (by decide) ?_
            refine ax_SLeq (by rw [fe_S, show N - 1 - m = k1 by omega]; rfl) ?_ (ih k1 (m + 1) (by omega) (by omega))
            simp only [Int32.sub_eq_add_neg]
      exact loop (N + 1) N 0 (by omega) (by omega)
    · refine ax_ldc (pc := 28) C dX6_feed_28 qX6_104 ?_
      exact ax_ir (pc := 30) C rfl dX6_feed_30 (by first | with_reducible rfl | (simp only [h7, h25, if_true, if_false, true_and, and_true, false_and, and_false, not_false_eq_true, not_true_eq_false]; done) | (simp only [h7, h25, if_true, if_false, true_and, and_true, false_and, and_false, not_false_eq_true, not_true_eq_false]; with_reducible rfl)) (by first | with_reducible rfl | (simp only [h7, h25, if_true, if_false, true_and, and_true, false_and, and_false, not_false_eq_true, not_true_eq_false]; done) | (simp only [h7, h25, if_true, if_false, true_and, and_true, false_and, and_false, not_false_eq_true, not_true_eq_false]; with_reducible rfl))
  · have h7 := ax_beq h7
    refine ax_ldc (pc := 10) C dX6_feed_10 qX6_63 ?_
    exact ax_ir (pc := 12) C rfl dX6_feed_12 (by first | with_reducible rfl | (simp only [h7, if_true, if_false, true_and, and_true, false_and, and_false, not_false_eq_true, not_true_eq_false]; done) | (simp only [h7, if_true, if_false, true_and, and_true, false_and, and_false, not_false_eq_true, not_true_eq_false]; with_reducible rfl)) (by first | with_reducible rfl | (simp only [h7, if_true, if_false, true_and, and_true, false_and, and_false, not_false_eq_true, not_true_eq_false]; done) | (simp only [h7, if_true, if_false, true_and, and_true, false_and, and_false, not_false_eq_true, not_true_eq_false]; with_reducible rfl))

set_option maxRecDepth 20000 in
set_option maxHeartbeats 4000000 in
theorem w_X6_judge {Y : ax_Y} {ad : Nat → Nat} (F : ax_F Y) {l : Launch} {σ : ax_Z} {n : Nat} (hn : σ 14 10 = nI n) (h6 : n ≤ 6) (ht : σ 14 9 = 0 ∨ σ 14 9 = 1) (hlen : ∀ c, c < 8 → ∃ len, len ≤ 40 ∧ σ (41 + 2 * c) 3 = nI len) {row i : Int32} : ax_m Y ad l iX6_judge 5 σ [.ref (ad 0), .int row, .int i] (some (.int (if σ 14 9 = 0 then -1000002 else if 0 ≤ row ∧ row ≤ 7 then (if σ (41 + 2 * row.toNatClampNeg) 1 = 0 then -1000010 - 1 else if (0 ≤ i ∧ (0 : Int32) ≤ 12 ∧ i ≤ σ (41 + 2 * row.toNatClampNeg) 3 ∧ 12 ≤ σ (41 + 2 * row.toNatClampNeg) 3 - i) then (if hs_all (fun h => decide (σ (42 + 2 * row.toNatClampNeg) (i.toNatClampNeg + h) = -1) || decide (0 ≤ σ (42 + 2 * row.toNatClampNeg) (i.toNatClampNeg + h) ∧ σ (42 + 2 * row.toNatClampNeg) (i.toNatClampNeg + h) ≤ nI n - 1)) 12 = true then ju_f (fun h => decide (σ (42 + 2 * row.toNatClampNeg) (i.toNatClampNeg + h) = (hp_dy (hp_bc (ax_up σ 0 8 0) 29 14) 29 n) 38 h)) 12 0 else -1000001) else -1000010 - 2) else -1000001))) (if σ 14 9 = 0 then σ else if 0 ≤ row ∧ row ≤ 7 then (if σ (41 + 2 * row.toNatClampNeg) 1 = 0 then ax_up σ 0 8 1 else if (0 ≤ i ∧ (0 : Int32) ≤ 12 ∧ i ≤ σ (41 + 2 * row.toNatClampNeg) 3 ∧ 12 ≤ σ (41 + 2 * row.toNatClampNeg) 3 - i) then (if hs_all (fun h => decide (σ (42 + 2 * row.toNatClampNeg) (i.toNatClampNeg + h) = -1) || decide (0 ≤ σ (42 + 2 * row.toNatClampNeg) (i.toNatClampNeg + h) ∧ σ (42 + 2 * row.toNatClampNeg) (i.toNatClampNeg + h) ≤ nI n - 1)) 12 = true then (hp_dy (hp_bc (ax_up σ 0 8 0) 29 14) 29 n) else σ) else ax_up σ 0 8 2) else σ) := by
  refine ax_m.of F kX6_judge.1 [some (.ref (ad 0)), some (.int (row)), some (.int (i)), none, none, none] rfl (Nat.le_of_ble_eq_true rfl) (fun x C => ?_)
  refine ax_aload_0 (pc := 0) C dX6_judge_0 ?_
  refine ax_getR (pc := 1) C fX6_25 dX6_judge_1 rfl rfl ?_
  refine ax_getI (pc := 4) C fX6_132 dX6_judge_4 rfl rfl ?_
  refine ax_if_ne (pc := 7) (tgt := 13) C dX6_judge_7 (by decide) (fun h7 => ?_) (fun h7 => ?_)
  · refine ax_iload_1 (pc := 13) C dX6_judge_13 ?_
    refine ax_callSi (pc := 14) C (w_X6_isRow F) kX6_isRow mX6_55 dX6_judge_14 (by decide) rfl rfl (Nat.le_of_ble_eq_true rfl) rfl ⟨Nat.le_refl _, Nat.le_refl _⟩ ?_
    refine ax_if_ne (pc := 17) (tgt := 23) C dX6_judge_17 (by decide) (fun h17 => ?_) (fun h17 => ?_)
    · have h17 := ax_bne h17
      obtain ⟨c, hc, rfl⟩ := ax_ix (m := 7) (by decide) h17
      have hc : c < 8 := by omega
      have ec : (nI c).toNatClampNeg = c := nI_clamp (by omega)
      obtain ⟨len, hl1, hl2⟩ := hlen c hc
      refine ax_aload_0 (pc := 23) C dX6_judge_23 ?_
      refine ax_getR (pc := 24) C fX6_11 dX6_judge_24 rfl rfl ?_
      refine ax_iload_1 (pc := 27) C dX6_judge_27 ?_
      refine ax_rows (pc := 28) C dX6_judge_28 hc ?_
      refine ax_astore_3 (pc := 29) C dX6_judge_29 rfl ?_
      refine ax_aload_3 (pc := 30) C dX6_judge_30 ?_
      refine ax_getI (pc := 31) C fX6_76 dX6_judge_31 (ax_rowO hc) rfl ?_
      refine ax_if_ne (pc := 34) (tgt := 43) C dX6_judge_34 (by decide) (fun h34 => ?_) (fun h34 => ?_)
      · refine ax_aload_3 (pc := 43) C dX6_judge_43 ?_
        refine ax_iload_2 (pc := 44) C dX6_judge_44 ?_
        refine ax_bipush (pc := 45) (v := 12) C dX6_judge_45 (by decide) ?_
        refine ax_callVi (pc := 47) C (w_X5_hasPlaces F hc) kX5_hasPlaces mX6_80 dX6_judge_47 (by decide) rfl (ax_rowO hc) rfl rfl rfl (Nat.le_of_ble_eq_true rfl) rfl ⟨Nat.le_refl _, Nat.le_refl _⟩ ?_
        refine ax_if_ne (pc := 50) (tgt := 59) C dX6_judge_50 (by decide) (fun h50 => ?_) (fun h50 => ?_)
        · have h50 := ax_bne h50
          obtain ⟨u, w, rfl, e1, hu⟩ := ax_plc hl2 hl1 h50
          have hw1 : w = 12 := ((nI_eq (a := 12) (by decide) (by omega)).mp e1).symm
          subst hw1
          have eu : (nI u).toNatClampNeg = u := nI_clamp (by omega)
          simp only [ec, eu, if_neg h7, if_pos h17, if_neg h34, if_pos h50]
          have hfr : ∀ h, (hp_dy (hp_bc (ax_up σ 0 8 0) 29 14) 29 n) (42 + 2 * c) (u + h) = σ (42 + 2 * c) (u + h) := by
            intro h
            rw [hp_dy_ne (by omega), hp_bc_ne (by omega), up_ne (by omega)]
          have cont : ax_S x Y ad 0 0 (ax_Q x Y ad (some (.int (ju_f (fun h => decide (σ (42 + 2 * c) (u + h) = (hp_dy (hp_bc (ax_up σ 0 8 0) 29 14) 29 n) 38 h)) 12 0))) 96 (ax_g Y ad (hp_dy (hp_bc (ax_up σ 0 8 0) 29 14) 29 n)) 0 0) σ 107 [some (.ref (ad 0)), some (.int (nI c)), some (.int (nI u)), some (.ref (ad (41 + 2 * c))), some (.int (nI 12)), none] [] := by
            have loop2 : ∀ (q : Nat) (h q0 : Nat), h + q0 = 12 → ju_f (fun h => decide (σ (42 + 2 * c) (u + h) = (hp_dy (hp_bc (ax_up σ 0 8 0) 29 14) 29 n) 38 h)) q0 h = ju_f (fun h => decide (σ (42 + 2 * c) (u + h) = (hp_dy (hp_bc (ax_up σ 0 8 0) 29 14) 29 n) 38 h)) 12 0 → q0 < q → ax_S x Y ad 0 0 (ax_Q x Y ad (some (.int (ju_f (fun h => decide (σ (42 + 2 * c) (u + h) = (hp_dy (hp_bc (ax_up σ 0 8 0) 29 14) 29 n) 38 h)) 12 0))) 96 (ax_g Y ad (hp_dy (hp_bc (ax_up σ 0 8 0) 29 14) 29 n)) 0 0) (hp_dy (hp_bc (ax_up σ 0 8 0) 29 14) 29 n) 128 [some (.ref (ad 0)), some (.int (nI c)), some (.int (nI u)), some (.ref (ad (41 + 2 * c))), some (.ref (ad 29)), some (.int (nI h))] [] := by
              intro q
              induction q with
              | zero => intro h q0 h1 hK h2; exfalso; omega
              | succ q ih =>
                intro h q0 h1 hK h2
                refine ax_iload_5 (pc := 128) C dX6_judge_128 ?_
                refine ax_bipush (pc := 130) (v := 12) C dX6_judge_130 (by decide) ?_
                refine ax_icmp_ge (pc := 132) (tgt := 164) C dX6_judge_132 (by decide) (fun h132 => ?_) (fun h132 => ?_)
                · have hh : ¬ h < 12 := fun z => nI_ge (a := h) (b := 12) z (by decide) h132
                  refine ax_ldc (pc := 164) C dX6_judge_164 qX6_152 ?_
                  exact ax_ir (pc := 166) C rfl dX6_judge_166 (by rw [← hK, show q0 = 0 by omega]; rfl) rfl
                · have hh : h < 12 := Nat.lt_of_not_le (fun z => h132 (nI_le (a := 12) z (by omega)))
                  obtain ⟨q1, rfl⟩ : ∃ q1, q0 = q1 + 1 := ⟨q0 - 1, by omega⟩
                  refine ax_aload_3 (pc := 135) C dX6_judge_135 ?_
                  refine ax_getR (pc := 136) C fX6_84 dX6_judge_136 (ax_rowO hc) rfl ?_
                  refine ax_iload_2 (pc := 139) C dX6_judge_139 ?_
                  refine ax_iload_5 (pc := 140) C dX6_judge_140 ?_
                  refine ax_iadd (pc := 142) C dX6_judge_142 ?_
                  refine ax_iae (pc := 143) (c := u + h) C dX6_judge_143 (ax_rowA hc) (nI_add u h) (by omega) (by decide) ?_
                  refine ax_val C (hfr h) ?_
                  refine ax_aload_4 (pc := 144) C dX6_judge_144 ?_
                  refine ax_getR (pc := 146) C fX6_181 dX6_judge_146 rfl rfl ?_
                  refine ax_iload_5 (pc := 149) C dX6_judge_149 ?_
                  refine ax_ian (pc := 151) C dX6_judge_151 rfl (by omega) (by omega) ?_
                  refine ax_icmp_eq (pc := 152) (tgt := 158) C dX6_judge_152 (by decide) (fun h152 => ?_) (fun h152 => ?_)
                  · refine ax_iinc_5 (pc := 158) C dX6_judge_158 (1) (by decide) rfl ?_
                    refine ax_goto (pc := 161) (tgt := 128) C dX6_judge_161 (by decide) ?_
                    rw [ju_f, if_pos (by simp only [h152, decide_true])] at hK
                    refine ax_Leq (by rw [nI_1]) (ih (h + 1) q1 (by omega) hK (by omega))
                  · refine ax_iload_5 (pc := 155) C dX6_judge_155 ?_
                    exact ax_ir (pc := 157) C rfl dX6_judge_157 (by rw [← hK, ju_f, if_neg (by simp only [h152, decide_false, Bool.false_eq_true, not_false_eq_true])]) rfl
            refine ax_aload_0 (pc := 107) C dX6_judge_107 ?_
            refine ax_iconst (pc := 108) (v := 0) C dX6_judge_108 (by decide) ?_
            refine ax_putI (pc := 109) C fX6_72 dX6_judge_109 rfl rfl rfl rfl ?_
            refine ax_aload_0 (pc := 112) C dX6_judge_112 ?_
            refine ax_getR (pc := 113) C fX6_43 dX6_judge_113 rfl rfl ?_
            refine ax_aload_0 (pc := 116) C dX6_judge_116 ?_
            refine ax_getR (pc := 117) C fX6_25 dX6_judge_117 rfl rfl ?_
            refine ax_callVr (pc := 120) C (w_X2_dayOf F (n := n) (by rw [up_ne (by decide)]; exact hn) (by omega) (by rw [up_ne (by decide)]; exact ht)) kX2_dayOf mX6_177 dX6_judge_120 (by decide) rfl rfl rfl rfl rfl (Nat.le_of_ble_eq_true rfl) rfl ⟨Nat.le_refl _, Nat.le_refl _⟩ ?_
            refine ax_astore_4 (pc := 123) C dX6_judge_123 rfl ?_
            refine ax_iconst (pc := 125) (v := 0) C dX6_judge_125 (by decide) ?_
            refine ax_istore_5 (pc := 126) C dX6_judge_126 rfl ?_
            exact loop2 13 0 12 rfl rfl (by omega)
          have loop : ∀ (q : Nat) (h : Nat), h ≤ 12 → hs_all (fun h => decide (σ (42 + 2 * c) (u + h) = -1) || decide (0 ≤ σ (42 + 2 * c) (u + h) ∧ σ (42 + 2 * c) (u + h) ≤ nI n - 1)) h = true → 12 < h + q → ax_S x Y ad 0 0 (ax_Q x Y ad (some (.int (if hs_all (fun h => decide (σ (42 + 2 * c) (u + h) = -1) || decide (0 ≤ σ (42 + 2 * c) (u + h) ∧ σ (42 + 2 * c) (u + h) ≤ nI n - 1)) 12 = true then ju_f (fun h => decide (σ (42 + 2 * c) (u + h) = (hp_dy (hp_bc (ax_up σ 0 8 0) 29 14) 29 n) 38 h)) 12 0 else -1000001))) 96 (ax_g Y ad (if hs_all (fun h => decide (σ (42 + 2 * c) (u + h) = -1) || decide (0 ≤ σ (42 + 2 * c) (u + h) ∧ σ (42 + 2 * c) (u + h) ≤ nI n - 1)) 12 = true then (hp_dy (hp_bc (ax_up σ 0 8 0) 29 14) 29 n) else σ)) 0 0) σ 62 [some (.ref (ad 0)), some (.int (nI c)), some (.int (nI u)), some (.ref (ad (41 + 2 * c))), some (.int (nI h)), none] [] := by
            intro q
            induction q with
            | zero => intro h h1 hal h2; exfalso; omega
            | succ q ih =>
              intro h h1 hal h2
              refine ax_iload_4 (pc := 62) C dX6_judge_62 ?_
              refine ax_bipush (pc := 64) (v := 12) C dX6_judge_64 (by decide) ?_
              refine ax_icmp_ge (pc := 66) (tgt := 107) C dX6_judge_66 (by decide) (fun h66 => ?_) (fun h66 => ?_)
              · have hh : h = 12 := by
                  have : ¬ h < 12 := fun z => nI_ge (a := h) (b := 12) z (by decide) h66
                  omega
                subst hh
                rw [if_pos hal, if_pos hal]
                exact cont
              · have hh : h < 12 := Nat.lt_of_not_le (fun z => h66 (nI_le (a := 12) z (by omega)))
                refine ax_aload_3 (pc := 69) C dX6_judge_69 ?_
                refine ax_getR (pc := 70) C fX6_84 dX6_judge_70 (ax_rowO hc) rfl ?_
                refine ax_iload_2 (pc := 73) C dX6_judge_73 ?_
                refine ax_iload_4 (pc := 74) C dX6_judge_74 ?_
                refine ax_iadd (pc := 76) C dX6_judge_76 ?_
                refine ax_iae (pc := 77) (c := u + h) C dX6_judge_77 (ax_rowA hc) (nI_add u h) (by omega) (by decide) ?_
                refine ax_iconst (pc := 78) (v := (-1)) C dX6_judge_78 (by decide) ?_
                refine ax_icmp_eq (pc := 79) (tgt := 101) C dX6_judge_79 (by decide) (fun h79 => ?_) (fun h79 => ?_)
                · refine ax_iinc_4 (pc := 101) C dX6_judge_101 (1) (by decide) rfl ?_
                  refine ax_goto (pc := 104) (tgt := 62) C dX6_judge_104 (by decide) ?_
                  refine ax_Leq (by rw [nI_1]) (ih (h + 1) (by omega) ?_ (by omega))
                  rw [hs_all, hal]
                  simp only [Bool.true_and, Bool.or_eq_true, decide_eq_true_eq]
                  exact Or.inl h79
                · refine ax_aload_0 (pc := 82) C dX6_judge_82 ?_
                  refine ax_aload_3 (pc := 83) C dX6_judge_83 ?_
                  refine ax_getR (pc := 84) C fX6_84 dX6_judge_84 (ax_rowO hc) rfl ?_
                  refine ax_iload_2 (pc := 87) C dX6_judge_87 ?_
                  refine ax_iload_4 (pc := 88) C dX6_judge_88 ?_
                  refine ax_iadd (pc := 90) C dX6_judge_90 ?_
                  refine ax_iae (pc := 91) (c := u + h) C dX6_judge_91 (ax_rowA hc) (nI_add u h) (by omega) (by decide) ?_
                  refine ax_callVi (pc := 92) C (w_X6_isCartN F hn) kX6_isCart mX6_146 dX6_judge_92 (by decide) rfl rfl rfl rfl rfl (Nat.le_of_ble_eq_true rfl) rfl ⟨Nat.le_refl _, Nat.le_refl _⟩ ?_
                  refine ax_if_ne (pc := 95) (tgt := 101) C dX6_judge_95 (by decide) (fun h95 => ?_) (fun h95 => ?_)
                  · have h95 := ax_bne h95
                    refine ax_iinc_4 (pc := 101) C dX6_judge_101 (1) (by decide) rfl ?_
                    refine ax_goto (pc := 104) (tgt := 62) C dX6_judge_104 (by decide) ?_
                    refine ax_Leq (by rw [nI_1]) (ih (h + 1) (by omega) ?_ (by omega))
                    rw [hs_all, hal]
                    simp only [Bool.true_and, Bool.or_eq_true, decide_eq_true_eq]
                    exact Or.inr h95
                  · have h95 := ax_beq h95
                    refine ax_ldc (pc := 98) C dX6_judge_98 qX6_63 ?_
                    exact ax_ir (pc := 100) C rfl dX6_judge_100 (by rw [if_neg (by rw [hs_all_f hh (by simp only [h79, h95, decide_false, Bool.or_false])]; decide)]) (by rw [if_neg (by rw [hs_all_f hh (by simp only [h79, h95, decide_false, Bool.or_false])]; decide)])
          refine ax_iconst (pc := 59) (v := 0) C dX6_judge_59 (by decide) ?_
          refine ax_istore_4 (pc := 60) C dX6_judge_60 rfl ?_
          exact loop 13 0 (by omega) rfl (by omega)
        · have h50 := ax_beq h50
          refine ax_aload_0 (pc := 53) C dX6_judge_53 ?_
          refine ax_iconst (pc := 54) (v := 2) C dX6_judge_54 (by decide) ?_
          refine ax_callVi (pc := 55) C (w_X6_found F) kX6_found mX6_64 dX6_judge_55 (by decide) rfl rfl rfl rfl rfl (Nat.le_of_ble_eq_true rfl) rfl ⟨Nat.le_refl _, Nat.le_refl _⟩ ?_
          exact ax_ir (pc := 58) C rfl dX6_judge_58 (by first | with_reducible rfl | (simp only [h7, h17, h34, h50, if_true, if_false, true_and, and_true, false_and, and_false, not_false_eq_true, not_true_eq_false, ec]; done) | (simp only [h7, h17, h34, h50, if_true, if_false, true_and, and_true, false_and, and_false, not_false_eq_true, not_true_eq_false, ec]; with_reducible rfl)) (by first | with_reducible rfl | (simp only [h7, h17, h34, h50, if_true, if_false, true_and, and_true, false_and, and_false, not_false_eq_true, not_true_eq_false, ec]; done) | (simp only [h7, h17, h34, h50, if_true, if_false, true_and, and_true, false_and, and_false, not_false_eq_true, not_true_eq_false, ec]; with_reducible rfl))
      · refine ax_aload_0 (pc := 37) C dX6_judge_37 ?_
        refine ax_iconst (pc := 38) (v := 1) C dX6_judge_38 (by decide) ?_
        refine ax_callVi (pc := 39) C (w_X6_found F) kX6_found mX6_64 dX6_judge_39 (by decide) rfl rfl rfl rfl rfl (Nat.le_of_ble_eq_true rfl) rfl ⟨Nat.le_refl _, Nat.le_refl _⟩ ?_
        exact ax_ir (pc := 42) C rfl dX6_judge_42 (by first | with_reducible rfl | (simp only [h7, h17, h34, if_true, if_false, true_and, and_true, false_and, and_false, not_false_eq_true, not_true_eq_false, ec]; done) | (simp only [h7, h17, h34, if_true, if_false, true_and, and_true, false_and, and_false, not_false_eq_true, not_true_eq_false, ec]; with_reducible rfl)) (by first | with_reducible rfl | (simp only [h7, h17, h34, if_true, if_false, true_and, and_true, false_and, and_false, not_false_eq_true, not_true_eq_false, ec]; done) | (simp only [h7, h17, h34, if_true, if_false, true_and, and_true, false_and, and_false, not_false_eq_true, not_true_eq_false, ec]; with_reducible rfl))
    · have h17 := ax_beq h17
      refine ax_ldc (pc := 20) C dX6_judge_20 qX6_63 ?_
      exact ax_ir (pc := 22) C rfl dX6_judge_22 (by first | with_reducible rfl | (simp only [h7, h17, if_true, if_false, true_and, and_true, false_and, and_false, not_false_eq_true, not_true_eq_false]; done) | (simp only [h7, h17, if_true, if_false, true_and, and_true, false_and, and_false, not_false_eq_true, not_true_eq_false]; with_reducible rfl)) (by first | with_reducible rfl | (simp only [h7, h17, if_true, if_false, true_and, and_true, false_and, and_false, not_false_eq_true, not_true_eq_false]; done) | (simp only [h7, h17, if_true, if_false, true_and, and_true, false_and, and_false, not_false_eq_true, not_true_eq_false]; with_reducible rfl))
  · refine ax_ldc (pc := 10) C dX6_judge_10 qX6_135 ?_
    exact ax_ir (pc := 12) C rfl dX6_judge_12 (by first | with_reducible rfl | (simp only [h7, if_true, if_false, true_and, and_true, false_and, and_false, not_false_eq_true, not_true_eq_false]; done) | (simp only [h7, if_true, if_false, true_and, and_true, false_and, and_false, not_false_eq_true, not_true_eq_false]; with_reducible rfl)) (by first | with_reducible rfl | (simp only [h7, if_true, if_false, true_and, and_true, false_and, and_false, not_false_eq_true, not_true_eq_false]; done) | (simp only [h7, if_true, if_false, true_and, and_true, false_and, and_false, not_false_eq_true, not_true_eq_false]; with_reducible rfl))
