/-! what a cart pays for its hour and in tolls; its best patience -/
def mc (σ : ax_Z) (c : Nat) : Int32 := σ 87 c * (σ 89 c - σ 86 c) + σ 90 c
theorem w_X7_cost {Y : ax_Y} {ad : Nat → Nat} (F : ax_F Y) {l : Launch} {σ : ax_Z} {c : Nat} (hc : c < 7) : ax_m Y ad l iX7_costOf 0 σ [.ref (ad 77), .int (nI c)] (some (.int (mc σ c))) σ := w_X7_costOf F hc
/-- the state, and the best patience so far, behind k days -/
def mb (σ : ax_Z) (c n : Nat) : Nat → ax_Z × Nat
  | 0 => (σ, 0)
  | k + 1 => if nI k = 0 ∨ mc (md_go (ax_up (mb σ c n k).1 88 c (nI k)) n) c < md_go (ax_up (mb σ c n k).1 88 c (nI k)) n 77 30 then (ax_up (md_go (ax_up (mb σ c n k).1 88 c (nI k)) n) 77 30 (mc (md_go (ax_up (mb σ c n k).1 88 c (nI k)) n) c), k)
    else (ax_up (md_go (ax_up (mb σ c n k).1 88 c (nI k)) n) 77 30 (md_go (ax_up (mb σ c n k).1 88 c (nI k)) n 77 30), (mb σ c n k).2)
def mb_d (σ : ax_Z) (c n k : Nat) : ax_Z := md_go (ax_up (mb σ c n k).1 88 c (nI k)) n
theorem mb_t {σ : ax_Z} {c n k : Nat} (h : nI k = 0 ∨ mc (mb_d σ c n k) c < mb_d σ c n k 77 30) : mb σ c n (k + 1) = (ax_up (mb_d σ c n k) 77 30 (mc (mb_d σ c n k) c), k) := if_pos h
theorem mb_f {σ : ax_Z} {c n k : Nat} (h : ¬ (nI k = 0 ∨ mc (mb_d σ c n k) c < mb_d σ c n k 77 30)) : mb σ c n (k + 1) = (ax_up (mb_d σ c n k) 77 30 (mb_d σ c n k 77 30), (mb σ c n k).2) := if_neg h
theorem mb_n {σ : ax_Z} {c n k : Nat} : (mb σ c n k).1 77 20 = σ 77 20 := by
  induction k with
  | zero => rfl
  | succ k ih =>
    by_cases h : nI k = 0 ∨ mc (mb_d σ c n k) c < mb_d σ c n k 77 30
    · rw [mb_t h]
      dsimp only
      rw [up_o (by decide), mb_d, md_go_ne (by decide), up_ne (by decide), ih]
    · rw [mb_f h]
      dsimp only
      rw [up_o (by decide), mb_d, md_go_ne (by decide), up_ne (by decide), ih]
def mb_S (σ : ax_Z) (c n : Nat) : ax_Z := ax_up (mb σ c n 12).1 88 c (σ 88 c)
theorem mb_S_n {σ : ax_Z} {c n : Nat} : mb_S σ c n 77 20 = σ 77 20 := by
  rw [mb_S, up_ne (by decide), mb_n]
/-- the days of one who tries each patience -/
def mt_S (σ : ax_Z) (c n : Nat) : Nat → ax_Z
  | 0 => σ
  | k + 1 => md_go (ax_up (mt_S σ c n k) 88 c (nI k)) n
theorem mt_n {σ : ax_Z} {c n k : Nat} : mt_S σ c n k 77 20 = σ 77 20 := by
  induction k with
  | zero => rfl
  | succ k ih => rw [mt_S, md_go_ne (by decide), up_ne (by decide), ih]
/-- days on end, with the book -/
def mk_S (σ : ax_Z) (n : Nat) : Nat → ax_Z
  | 0 => σ
  | k + 1 => md_go (mk_S σ n k) n
theorem mk_n {σ : ax_Z} {n k : Nat} : mk_S σ n k 77 20 = σ 77 20 := by
  induction k with
  | zero => rfl
  | succ k ih => rw [mk_S, md_go_ne (by decide), ih]
/-- what went and was paid comes into the pass -/
def mw_S (τ : ax_Z) : Nat → ax_Z
  | 0 => τ
  | m + 1 => ax_up (ax_up (mw_S τ m) 81 (8 + 6 * m + 4) (τ 89 m)) 81 (8 + 6 * m + 5) (τ 90 m)
theorem mw_ne {τ : ax_Z} {m a : Nat} (h : a ≠ 81) : mw_S τ m a = τ a := by
  induction m with
  | zero => rfl
  | succ m ih => rw [mw_S, up_ne h, up_ne h, ih]
theorem mw_lo {τ : ax_Z} {m b : Nat} (h : b < 8) : mw_S τ m 81 b = τ 81 b := by
  induction m with
  | zero => rfl
  | succ m ih => rw [mw_S, up_o (by omega), up_o (by omega), ih]
/-- the shares of the first m of k, one by one -/
def ms_s (T : Int32) (k : Nat) : Nat → Int32
  | 0 => 0
  | m + 1 => ms_s T k m + (T / nI k + (if nI m < T - T / nI k * nI k then 1 else 0))
def ms_ok (toll : Nat → Int32) (k m : Nat) : Bool := decide (m = 0) || decide (ms_s (hs_toll toll k) k m ≤ hs_toll toll m)

set_option maxRecDepth 20000 in
set_option maxHeartbeats 4000000 in
theorem w_X7_day {Y : ax_Y} {ad : Nat → Nat} (F : ax_F Y) {l : Launch} {σ : ax_Z} {n : Nat} (hn : σ 81 0 = nI n) (h6 : n ≤ 6) {cart k : Int32} : ax_m Y ad l iX7_day 5 σ [.ref (ad 77), .int cart, .int k] (some (.int (if (0 ≤ cart ∧ cart ≤ nI n - 1) ∧ (0 ≤ k ∧ k ≤ 2) then (if k = 0 then (md_go (ly_S (ax_up σ 77 0 0) n n) n) 89 cart.toNatClampNeg else if k = 1 then mc (md_go (ly_S (ax_up σ 77 0 0) n n) n) cart.toNatClampNeg else (md_go (ly_S (ax_up σ 77 0 0) n n) n) 90 cart.toNatClampNeg) else -1000001))) (if (0 ≤ cart ∧ cart ≤ nI n - 1) ∧ (0 ≤ k ∧ k ≤ 2) then (md_go (ly_S (ax_up σ 77 0 0) n n) n) else (ax_up σ 77 0 0)) := by
  refine ax_m.of F kX7_day.1 [some (.ref (ad 77)), some (.int (cart)), some (.int (k))] rfl (Nat.le_of_ble_eq_true rfl) (fun x C => ?_)
  refine ax_aload_0 (pc := 0) C dX7_day_0 ?_
  refine ax_iconst (pc := 1) (v := 0) C dX7_day_1 (by decide) ?_
  refine ax_putI (pc := 2) C fX7_65 dX7_day_2 rfl rfl rfl rfl ?_
  refine ax_aload_0 (pc := 5) C dX7_day_5 ?_
  refine ax_iload_1 (pc := 6) C dX7_day_6 ?_
  refine ax_callVi (pc := 7) C (w_X7_isCart F (n := n) (by rw [up_ne (by decide)]; exact hn)) kX7_isCart mX7_230 dX7_day_7 (by decide) rfl rfl rfl rfl rfl (Nat.le_of_ble_eq_true rfl) rfl ⟨Nat.le_refl _, Nat.le_refl _⟩ ?_
  refine ax_if_eq (pc := 10) (tgt := 25) C dX7_day_10 (by decide) (fun h10 => ?_) (fun h10 => ?_)
  · have h10 := ax_beq h10
    refine ax_ldc (pc := 25) C dX7_day_25 qX7_85 ?_
    exact ax_ir (pc := 27) C rfl dX7_day_27 (by first | with_reducible rfl | (simp only [h10, if_true, if_false, true_and, and_true, false_and, and_false, not_false_eq_true, not_true_eq_false]; done) | (simp only [h10, if_true, if_false, true_and, and_true, false_and, and_false, not_false_eq_true, not_true_eq_false]; with_reducible rfl)) (by first | with_reducible rfl | (simp only [h10, if_true, if_false, true_and, and_true, false_and, and_false, not_false_eq_true, not_true_eq_false]; done) | (simp only [h10, if_true, if_false, true_and, and_true, false_and, and_false, not_false_eq_true, not_true_eq_false]; with_reducible rfl))
  · have h10 := ax_bne h10
    refine ax_iload_2 (pc := 13) C dX7_day_13 ?_
    refine ax_i2l (pc := 14) C dX7_day_14 ?_
    refine ax_lconst (pc := 15) (v := 0) C dX7_day_15 (by decide) ?_
    refine ax_ldc2 (pc := 16) C dX7_day_16 qX7_83 ?_
    refine ax_callSi (pc := 19) C (w_X7_in F (lo := (0)) (hi := (2)) rfl rfl) kX7_in mX7_75 dX7_day_19 (by decide) rfl rfl (Nat.le_of_ble_eq_true rfl) rfl ⟨Nat.le_refl _, Nat.le_refl _⟩ ?_
    refine ax_if_ne (pc := 22) (tgt := 28) C dX7_day_22 (by decide) (fun h22 => ?_) (fun h22 => ?_)
    · have h22 := ax_bne h22
      obtain ⟨c, hc, rfl⟩ := ax_ixN (by omega) h10
      have ec : (nI c).toNatClampNeg = c := nI_clamp (by omega)
      have hq := And.intro h10 h22
      simp only [if_pos hq, ec]
      refine ax_aload_0 (pc := 28) C dX7_day_28 ?_
      refine ax_callVv (pc := 29) C (w_X7_layNow F (n := n) (by rw [up_ne (by decide)]; exact hn) h6) kX7_layNow mX7_227 dX7_day_29 (by decide) rfl rfl rfl rfl rfl (Nat.le_of_ble_eq_true rfl) rfl ⟨Nat.le_refl _, Nat.le_refl _⟩ ?_
      refine ax_aload_0 (pc := 32) C dX7_day_32 ?_
      refine ax_callVv (pc := 33) C (w_X7_goDay F (n := n) ly_20 (by omega)) kX7_goDay mX7_238 dX7_day_33 (by decide) rfl rfl rfl rfl rfl (Nat.le_of_ble_eq_true rfl) rfl ⟨Nat.le_refl _, Nat.le_refl _⟩ ?_
      refine ax_iload_2 (pc := 36) C dX7_day_36 ?_
      refine ax_if_ne (pc := 37) (tgt := 49) C dX7_day_37 (by decide) (fun h37 => ?_) (fun h37 => ?_)
      · refine ax_iload_2 (pc := 49) C dX7_day_49 ?_
        refine ax_iconst (pc := 50) (v := 1) C dX7_day_50 (by decide) ?_
        refine ax_icmp_ne (pc := 51) (tgt := 62) C dX7_day_51 (by decide) (fun h51 => ?_) (fun h51 => ?_)
        · refine ax_aload_0 (pc := 62) C dX7_day_62 ?_
          refine ax_getR (pc := 63) C fX7_46 dX7_day_63 rfl rfl ?_
          refine ax_iload_1 (pc := 66) C dX7_day_66 ?_
          refine ax_ian (pc := 67) C dX7_day_67 rfl (by omega) (by omega) ?_
          exact ax_ir (pc := 68) C rfl dX7_day_68 (by rw [if_neg h37, if_neg h51]) rfl
        · refine ax_aload_0 (pc := 54) C dX7_day_54 ?_
          refine ax_iload_1 (pc := 55) C dX7_day_55 ?_
          refine ax_callVi (pc := 56) C (w_X7_cost F (by omega)) kX7_costOf mX7_235 dX7_day_56 (by decide) rfl rfl rfl rfl rfl (Nat.le_of_ble_eq_true rfl) rfl ⟨Nat.le_refl _, Nat.le_refl _⟩ ?_
          refine ax_goto (pc := 59) (tgt := 68) C dX7_day_59 (by decide) ?_
          exact ax_ir (pc := 68) C rfl dX7_day_68 (by rw [if_neg h37, if_pos h51]) rfl
      · refine ax_aload_0 (pc := 40) C dX7_day_40 ?_
        refine ax_getR (pc := 41) C fX7_43 dX7_day_41 rfl rfl ?_
        refine ax_iload_1 (pc := 44) C dX7_day_44 ?_
        refine ax_ian (pc := 45) C dX7_day_45 rfl (by omega) (by omega) ?_
        refine ax_goto (pc := 46) (tgt := 68) C dX7_day_46 (by decide) ?_
        exact ax_ir (pc := 68) C rfl dX7_day_68 (by rw [if_pos h37]) rfl
    · have h22 := ax_beq h22
      refine ax_ldc (pc := 25) C dX7_day_25 qX7_85 ?_
      exact ax_ir (pc := 27) C rfl dX7_day_27 (by first | with_reducible rfl | (simp only [h10, h22, if_true, if_false, true_and, and_true, false_and, and_false, not_false_eq_true, not_true_eq_false]; done) | (simp only [h10, h22, if_true, if_false, true_and, and_true, false_and, and_false, not_false_eq_true, not_true_eq_false]; with_reducible rfl)) (by first | with_reducible rfl | (simp only [h10, h22, if_true, if_false, true_and, and_true, false_and, and_false, not_false_eq_true, not_true_eq_false]; done) | (simp only [h10, h22, if_true, if_false, true_and, and_true, false_and, and_false, not_false_eq_true, not_true_eq_false]; with_reducible rfl))

set_option maxRecDepth 20000 in
set_option maxHeartbeats 4000000 in
theorem w_X7_bestOf {Y : ax_Y} {ad : Nat → Nat} (F : ax_F Y) {l : Launch} {σ : ax_Z} {n : Nat} (hn : σ 77 20 = nI n) (h7 : n ≤ 7) {c : Nat} (hc : c < 7) : ax_m Y ad l iX7_bestOf 5 σ [.ref (ad 77), .int (nI c)] (some (.int (nI (mb σ c n 12).2))) (mb_S σ c n) := by
  refine ax_m.of F kX7_bestOf.1 [some (.ref (ad 77)), some (.int (nI c)), none, none, none, none] rfl (Nat.le_of_ble_eq_true rfl) (fun x C => ?_)
  have tl : ∀ (z : Option Value), ax_S x Y ad 0 0 (ax_Q x Y ad (some (.int (nI (mb σ c n 12).2))) 96 (ax_g Y ad (mb_S σ c n)) 0 0) (mb σ c n 12).1 92 [some (.ref (ad 77)), some (.int (nI c)), some (.int (σ 88 c)), some (.int (nI (mb σ c n 12).2)), some (.int (nI 12)), z] [] := by
    intro z
    refine ax_aload_0 (pc := 92) C dX7_bestOf_92 ?_
    refine ax_getR (pc := 93) C fX7_40 dX7_bestOf_93 rfl rfl ?_
    refine ax_iload_1 (pc := 96) C dX7_bestOf_96 ?_
    refine ax_iload_2 (pc := 97) C dX7_bestOf_97 ?_
    refine ax_isn (pc := 98) C dX7_bestOf_98 rfl (by omega) (by omega) ?_
    refine ax_iload_3 (pc := 99) C dX7_bestOf_99 ?_
    exact ax_ir (pc := 100) C rfl dX7_bestOf_100 rfl rfl
  have loop : ∀ (q : Nat) (k : Nat) (z : Option Value), k ≤ 12 → 12 < k + q → ax_S x Y ad 0 0 (ax_Q x Y ad (some (.int (nI (mb σ c n 12).2))) 96 (ax_g Y ad (mb_S σ c n)) 0 0) (mb σ c n k).1 12 [some (.ref (ad 77)), some (.int (nI c)), some (.int (σ 88 c)), some (.int (nI (mb σ c n k).2)), some (.int (nI k)), z] [] := by
    intro q
    induction q with
    | zero => intro k z h1 h2; exfalso; omega
    | succ q ih =>
      intro k z h1 h2
      refine ax_iload_4 (pc := 12) C dX7_bestOf_12 ?_
      refine ax_bipush (pc := 14) (v := 11) C dX7_bestOf_14 (by decide) ?_
      refine ax_icmp_gt (pc := 16) (tgt := 92) C dX7_bestOf_16 (by decide) (fun h16 => ?_) (fun h16 => ?_)
      · have hk16 : ¬ k ≤ 11 := fun z => absurd (nI_le (b := 11) z (by decide)) (Int32.not_le.mpr h16)
        have ek : k = 12 := by omega
        subst ek
        exact tl _
      · have hk16 : k ≤ 11 := Nat.le_of_not_lt (fun z => h16 (nI_lt (a := 11) z (by omega)))
        refine ax_aload_0 (pc := 19) C dX7_bestOf_19 ?_
        refine ax_getR (pc := 20) C fX7_40 dX7_bestOf_20 rfl rfl ?_
        refine ax_iload_1 (pc := 23) C dX7_bestOf_23 ?_
        refine ax_iload_4 (pc := 24) C dX7_bestOf_24 ?_
        refine ax_isn (pc := 26) C dX7_bestOf_26 rfl (by omega) (by omega) ?_
        refine ax_aload_0 (pc := 27) C dX7_bestOf_27 ?_
        refine ax_callVv (pc := 28) C (show ax_m Y ad _ iX7_goDay 4 _ _ none (mb_d σ c n k) from w_X7_goDay F (n := n) (by rw [up_ne (by decide), mb_n]; exact hn) h7) kX7_goDay mX7_238 dX7_bestOf_28 (by decide) rfl rfl rfl rfl rfl (Nat.le_of_ble_eq_true rfl) rfl ⟨Nat.le_refl _, Nat.le_refl _⟩ ?_
        refine ax_aload_0 (pc := 31) C dX7_bestOf_31 ?_
        refine ax_iload_1 (pc := 32) C dX7_bestOf_32 ?_
        refine ax_callVi (pc := 33) C (w_X7_cost F (by omega)) kX7_costOf mX7_235 dX7_bestOf_33 (by decide) rfl rfl rfl rfl rfl (Nat.le_of_ble_eq_true rfl) rfl ⟨Nat.le_refl _, Nat.le_refl _⟩ ?_
        refine ax_istore_5 (pc := 36) C dX7_bestOf_36 rfl ?_
        refine ax_iload_4 (pc := 38) C dX7_bestOf_38 ?_
        refine ax_if_eq (pc := 40) (tgt := 52) C dX7_bestOf_40 (by decide) (fun h40 => ?_) (fun h40 => ?_)
        · refine ax_iload_4 (pc := 52) C dX7_bestOf_52 ?_
          refine ax_goto (pc := 54) (tgt := 58) C dX7_bestOf_54 (by decide) ?_
          refine ax_istore_3 (pc := 58) C dX7_bestOf_58 rfl ?_
          refine ax_aload_0 (pc := 59) C dX7_bestOf_59 ?_
          refine ax_iload_4 (pc := 60) C dX7_bestOf_60 ?_
          refine ax_if_eq (pc := 62) (tgt := 74) C dX7_bestOf_62 (by decide) (fun h62 => ?_) (fun h62 => ?_)
          · refine ax_iload_5 (pc := 74) C dX7_bestOf_74 ?_
            refine ax_goto (pc := 76) (tgt := 83) C dX7_bestOf_76 (by decide) ?_
            refine ax_putI (pc := 83) C fX7_245 dX7_bestOf_83 rfl rfl rfl rfl ?_
            refine ax_iinc_4 (pc := 86) C dX7_bestOf_86 (1) (by decide) rfl ?_
            refine ax_goto (pc := 89) (tgt := 12) C dX7_bestOf_89 (by decide) ?_
            have e := mb_t (σ := σ) (c := c) (n := n) (k := k) (Or.inl h40)
            refine ax_SLeq (by rw [e]) (by rw [e, nI_1]) (ih (k + 1) (some (.int (mc (mb_d σ c n k) c))) (by omega) (by omega))
          · exact absurd h40 h62
        · refine ax_iload_5 (pc := 43) C dX7_bestOf_43 ?_
          refine ax_aload_0 (pc := 45) C dX7_bestOf_45 ?_
          refine ax_getI (pc := 46) C fX7_245 dX7_bestOf_46 rfl rfl ?_
          refine ax_icmp_ge (pc := 49) (tgt := 57) C dX7_bestOf_49 (by decide) (fun h49 => ?_) (fun h49 => ?_)
          · refine ax_iload_3 (pc := 57) C dX7_bestOf_57 ?_
            refine ax_istore_3 (pc := 58) C dX7_bestOf_58 rfl ?_
            refine ax_aload_0 (pc := 59) C dX7_bestOf_59 ?_
            refine ax_iload_4 (pc := 60) C dX7_bestOf_60 ?_
            refine ax_if_eq (pc := 62) (tgt := 74) C dX7_bestOf_62 (by decide) (fun h62 => ?_) (fun h62 => ?_)
            · exact absurd h62 h40
            · refine ax_iload_5 (pc := 65) C dX7_bestOf_65 ?_
              refine ax_aload_0 (pc := 67) C dX7_bestOf_67 ?_
              refine ax_getI (pc := 68) C fX7_245 dX7_bestOf_68 rfl rfl ?_
              refine ax_icmp_ge (pc := 71) (tgt := 79) C dX7_bestOf_71 (by decide) (fun h71 => ?_) (fun h71 => ?_)
              · refine ax_aload_0 (pc := 79) C dX7_bestOf_79 ?_
                refine ax_getI (pc := 80) C fX7_245 dX7_bestOf_80 rfl rfl ?_
                refine ax_putI (pc := 83) C fX7_245 dX7_bestOf_83 rfl rfl rfl rfl ?_
                refine ax_iinc_4 (pc := 86) C dX7_bestOf_86 (1) (by decide) rfl ?_
                refine ax_goto (pc := 89) (tgt := 12) C dX7_bestOf_89 (by decide) ?_
                have e := mb_f (σ := σ) (c := c) (n := n) (k := k) (fun z => z.elim h40 (fun z => absurd h49 (Int32.not_le.mpr z)))
                refine ax_SLeq (by rw [e]) (by rw [e, nI_1]) (ih (k + 1) (some (.int (mc (mb_d σ c n k) c))) (by omega) (by omega))
              · exact absurd h49 h71
          · refine ax_iload_4 (pc := 52) C dX7_bestOf_52 ?_
            refine ax_goto (pc := 54) (tgt := 58) C dX7_bestOf_54 (by decide) ?_
            refine ax_istore_3 (pc := 58) C dX7_bestOf_58 rfl ?_
            refine ax_aload_0 (pc := 59) C dX7_bestOf_59 ?_
            refine ax_iload_4 (pc := 60) C dX7_bestOf_60 ?_
            refine ax_if_eq (pc := 62) (tgt := 74) C dX7_bestOf_62 (by decide) (fun h62 => ?_) (fun h62 => ?_)
            · exact absurd h62 h40
            · refine ax_iload_5 (pc := 65) C dX7_bestOf_65 ?_
              refine ax_aload_0 (pc := 67) C dX7_bestOf_67 ?_
              refine ax_getI (pc := 68) C fX7_245 dX7_bestOf_68 rfl rfl ?_
              refine ax_icmp_ge (pc := 71) (tgt := 79) C dX7_bestOf_71 (by decide) (fun h71 => ?_) (fun h71 => ?_)
              · exact absurd h71 h49
              · refine ax_iload_5 (pc := 74) C dX7_bestOf_74 ?_
                refine ax_goto (pc := 76) (tgt := 83) C dX7_bestOf_76 (by decide) ?_
                refine ax_putI (pc := 83) C fX7_245 dX7_bestOf_83 rfl rfl rfl rfl ?_
                refine ax_iinc_4 (pc := 86) C dX7_bestOf_86 (1) (by decide) rfl ?_
                refine ax_goto (pc := 89) (tgt := 12) C dX7_bestOf_89 (by decide) ?_
                have e := mb_t (σ := σ) (c := c) (n := n) (k := k) (Or.inr (Int32.not_le.mp h49))
                refine ax_SLeq (by rw [e]) (by rw [e, nI_1]) (ih (k + 1) (some (.int (mc (mb_d σ c n k) c))) (by omega) (by omega))
  refine ax_aload_0 (pc := 0) C dX7_bestOf_0 ?_
  refine ax_getR (pc := 1) C fX7_40 dX7_bestOf_1 rfl rfl ?_
  refine ax_iload_1 (pc := 4) C dX7_bestOf_4 ?_
  refine ax_ian (pc := 5) C dX7_bestOf_5 rfl (by omega) (by omega) ?_
  refine ax_istore_2 (pc := 6) C dX7_bestOf_6 rfl ?_
  refine ax_iconst (pc := 7) (v := 0) C dX7_bestOf_7 (by decide) ?_
  refine ax_istore_3 (pc := 8) C dX7_bestOf_8 rfl ?_
  refine ax_iconst (pc := 9) (v := 0) C dX7_bestOf_9 (by decide) ?_
  refine ax_istore_4 (pc := 10) C dX7_bestOf_10 rfl ?_
  exact loop 13 0 none (by omega) (by omega)

set_option maxRecDepth 20000 in
set_option maxHeartbeats 4000000 in
theorem w_X7_best {Y : ax_Y} {ad : Nat → Nat} (F : ax_F Y) {l : Launch} {σ : ax_Z} {n : Nat} (hn : σ 81 0 = nI n) (h6 : n ≤ 6) {cart k : Int32} : ax_m Y ad l iX7_best 6 σ [.ref (ad 77), .int cart, .int k] (some (.int (if (0 ≤ cart ∧ cart ≤ nI n - 1) ∧ (0 ≤ k ∧ k ≤ 1) then (if k = 0 then nI (mb (ly_S (ax_up σ 77 0 0) n n) cart.toNatClampNeg n 12).2 else mb_S (ly_S (ax_up σ 77 0 0) n n) cart.toNatClampNeg n 77 30) else -1000001))) (if (0 ≤ cart ∧ cart ≤ nI n - 1) ∧ (0 ≤ k ∧ k ≤ 1) then mb_S (ly_S (ax_up σ 77 0 0) n n) cart.toNatClampNeg n else (ax_up σ 77 0 0)) := by
  refine ax_m.of F kX7_best.1 [some (.ref (ad 77)), some (.int (cart)), some (.int (k)), none] rfl (Nat.le_of_ble_eq_true rfl) (fun x C => ?_)
  refine ax_aload_0 (pc := 0) C dX7_best_0 ?_
  refine ax_iconst (pc := 1) (v := 0) C dX7_best_1 (by decide) ?_
  refine ax_putI (pc := 2) C fX7_65 dX7_best_2 rfl rfl rfl rfl ?_
  refine ax_aload_0 (pc := 5) C dX7_best_5 ?_
  refine ax_iload_1 (pc := 6) C dX7_best_6 ?_
  refine ax_callVi (pc := 7) C (w_X7_isCart F (n := n) (by rw [up_ne (by decide)]; exact hn)) kX7_isCart mX7_230 dX7_best_7 (by decide) rfl rfl rfl rfl rfl (Nat.le_of_ble_eq_true rfl) rfl ⟨Nat.le_refl _, Nat.le_refl _⟩ ?_
  refine ax_if_eq (pc := 10) (tgt := 23) C dX7_best_10 (by decide) (fun h10 => ?_) (fun h10 => ?_)
  · have h10 := ax_beq h10
    refine ax_ldc (pc := 23) C dX7_best_23 qX7_85 ?_
    exact ax_ir (pc := 25) C rfl dX7_best_25 (by first | with_reducible rfl | (simp only [h10, if_true, if_false, true_and, and_true, false_and, and_false, not_false_eq_true, not_true_eq_false]; done) | (simp only [h10, if_true, if_false, true_and, and_true, false_and, and_false, not_false_eq_true, not_true_eq_false]; with_reducible rfl)) (by first | with_reducible rfl | (simp only [h10, if_true, if_false, true_and, and_true, false_and, and_false, not_false_eq_true, not_true_eq_false]; done) | (simp only [h10, if_true, if_false, true_and, and_true, false_and, and_false, not_false_eq_true, not_true_eq_false]; with_reducible rfl))
  · have h10 := ax_bne h10
    refine ax_iload_2 (pc := 13) C dX7_best_13 ?_
    refine ax_i2l (pc := 14) C dX7_best_14 ?_
    refine ax_lconst (pc := 15) (v := 0) C dX7_best_15 (by decide) ?_
    refine ax_lconst (pc := 16) (v := 1) C dX7_best_16 (by decide) ?_
    refine ax_callSi (pc := 17) C (w_X7_in F (lo := (0)) (hi := (1)) rfl rfl) kX7_in mX7_75 dX7_best_17 (by decide) rfl rfl (Nat.le_of_ble_eq_true rfl) rfl ⟨Nat.le_refl _, Nat.le_refl _⟩ ?_
    refine ax_if_ne (pc := 20) (tgt := 26) C dX7_best_20 (by decide) (fun h20 => ?_) (fun h20 => ?_)
    · have h20 := ax_bne h20
      obtain ⟨c, hc, rfl⟩ := ax_ixN (by omega) h10
      have ec : (nI c).toNatClampNeg = c := nI_clamp (by omega)
      have hq := And.intro h10 h20
      simp only [if_pos hq, ec]
      refine ax_aload_0 (pc := 26) C dX7_best_26 ?_
      refine ax_callVv (pc := 27) C (w_X7_layNow F (n := n) (by rw [up_ne (by decide)]; exact hn) h6) kX7_layNow mX7_227 dX7_best_27 (by decide) rfl rfl rfl rfl rfl (Nat.le_of_ble_eq_true rfl) rfl ⟨Nat.le_refl _, Nat.le_refl _⟩ ?_
      refine ax_aload_0 (pc := 30) C dX7_best_30 ?_
      refine ax_iload_1 (pc := 31) C dX7_best_31 ?_
      refine ax_callVi (pc := 32) C (w_X7_bestOf F (n := n) ly_20 (by omega) (c := c) (by omega)) kX7_bestOf mX7_248 dX7_best_32 (by decide) rfl rfl rfl rfl rfl (Nat.le_of_ble_eq_true rfl) rfl ⟨Nat.le_refl _, Nat.le_refl _⟩ ?_
      refine ax_istore_3 (pc := 35) C dX7_best_35 rfl ?_
      refine ax_iload_2 (pc := 36) C dX7_best_36 ?_
      refine ax_if_ne (pc := 37) (tgt := 44) C dX7_best_37 (by decide) (fun h37 => ?_) (fun h37 => ?_)
      · refine ax_aload_0 (pc := 44) C dX7_best_44 ?_
        refine ax_getI (pc := 45) C fX7_245 dX7_best_45 rfl rfl ?_
        exact ax_ir (pc := 48) C rfl dX7_best_48 (by rw [if_neg h37]) rfl
      · refine ax_iload_3 (pc := 40) C dX7_best_40 ?_
        refine ax_goto (pc := 41) (tgt := 48) C dX7_best_41 (by decide) ?_
        exact ax_ir (pc := 48) C rfl dX7_best_48 (by rw [if_pos h37]) rfl
    · have h20 := ax_beq h20
      refine ax_ldc (pc := 23) C dX7_best_23 qX7_85 ?_
      exact ax_ir (pc := 25) C rfl dX7_best_25 (by first | with_reducible rfl | (simp only [h10, h20, if_true, if_false, true_and, and_true, false_and, and_false, not_false_eq_true, not_true_eq_false]; done) | (simp only [h10, h20, if_true, if_false, true_and, and_true, false_and, and_false, not_false_eq_true, not_true_eq_false]; with_reducible rfl)) (by first | with_reducible rfl | (simp only [h10, h20, if_true, if_false, true_and, and_true, false_and, and_false, not_false_eq_true, not_true_eq_false]; done) | (simp only [h10, h20, if_true, if_false, true_and, and_true, false_and, and_false, not_false_eq_true, not_true_eq_false]; with_reducible rfl))

set_option maxRecDepth 20000 in
set_option maxHeartbeats 4000000 in
theorem w_X7_thought {Y : ax_Y} {ad : Nat → Nat} (F : ax_F Y) {l : Launch} {σ : ax_Z} {n : Nat} (hn : σ 81 0 = nI n) (h6 : n ≤ 6) {cart hr : Int32} : ax_m Y ad l iX7_thought 5 σ [.ref (ad 77), .int cart, .int hr] (some (.int (if (0 ≤ cart ∧ cart ≤ nI n - 1) ∧ (0 ≤ hr ∧ hr ≤ 11) then nI (ms_k (fun k => decide (mt_S (ly_S (ax_up σ 77 0 0) n n) cart.toNatClampNeg n (k + 1) 89 cart.toNatClampNeg = hr)) 12) else -1000001))) (if (0 ≤ cart ∧ cart ≤ nI n - 1) ∧ (0 ≤ hr ∧ hr ≤ 11) then mt_S (ly_S (ax_up σ 77 0 0) n n) cart.toNatClampNeg n 12 else (ax_up σ 77 0 0)) := by
  refine ax_m.of F kX7_thought.1 [some (.ref (ad 77)), some (.int (cart)), some (.int (hr)), none, none] rfl (Nat.le_of_ble_eq_true rfl) (fun x C => ?_)
  refine ax_aload_0 (pc := 0) C dX7_thought_0 ?_
  refine ax_iconst (pc := 1) (v := 0) C dX7_thought_1 (by decide) ?_
  refine ax_putI (pc := 2) C fX7_65 dX7_thought_2 rfl rfl rfl rfl ?_
  refine ax_aload_0 (pc := 5) C dX7_thought_5 ?_
  refine ax_iload_1 (pc := 6) C dX7_thought_6 ?_
  refine ax_callVi (pc := 7) C (w_X7_isCart F (n := n) (by rw [up_ne (by decide)]; exact hn)) kX7_isCart mX7_230 dX7_thought_7 (by decide) rfl rfl rfl rfl rfl (Nat.le_of_ble_eq_true rfl) rfl ⟨Nat.le_refl _, Nat.le_refl _⟩ ?_
  refine ax_if_eq (pc := 10) (tgt := 20) C dX7_thought_10 (by decide) (fun h10 => ?_) (fun h10 => ?_)
  · have h10 := ax_beq h10
    refine ax_ldc (pc := 20) C dX7_thought_20 qX7_85 ?_
    exact ax_ir (pc := 22) C rfl dX7_thought_22 (by first | with_reducible rfl | (simp only [h10, if_true, if_false, true_and, and_true, false_and, and_false, not_false_eq_true, not_true_eq_false]; done) | (simp only [h10, if_true, if_false, true_and, and_true, false_and, and_false, not_false_eq_true, not_true_eq_false]; with_reducible rfl)) (by first | with_reducible rfl | (simp only [h10, if_true, if_false, true_and, and_true, false_and, and_false, not_false_eq_true, not_true_eq_false]; done) | (simp only [h10, if_true, if_false, true_and, and_true, false_and, and_false, not_false_eq_true, not_true_eq_false]; with_reducible rfl))
  · have h10 := ax_bne h10
    refine ax_iload_2 (pc := 13) C dX7_thought_13 ?_
    refine ax_callSi (pc := 14) C (w_X7_isHour F) kX7_isHour mX7_251 dX7_thought_14 (by decide) rfl rfl (Nat.le_of_ble_eq_true rfl) rfl ⟨Nat.le_refl _, Nat.le_refl _⟩ ?_
    refine ax_if_ne (pc := 17) (tgt := 23) C dX7_thought_17 (by decide) (fun h17 => ?_) (fun h17 => ?_)
    · have h17 := ax_bne h17
      obtain ⟨c, hc, rfl⟩ := ax_ixN (by omega) h10
      have ec : (nI c).toNatClampNeg = c := nI_clamp (by omega)
      have hq := And.intro h10 h17
      simp only [if_pos hq, ec]
      refine ax_aload_0 (pc := 23) C dX7_thought_23 ?_
      refine ax_callVv (pc := 24) C (w_X7_layNow F (n := n) (by rw [up_ne (by decide)]; exact hn) h6) kX7_layNow mX7_227 dX7_thought_24 (by decide) rfl rfl rfl rfl rfl (Nat.le_of_ble_eq_true rfl) rfl ⟨Nat.le_refl _, Nat.le_refl _⟩ ?_
      refine ax_iconst (pc := 27) (v := 0) C dX7_thought_27 (by decide) ?_
      refine ax_istore_3 (pc := 28) C dX7_thought_28 rfl ?_
      refine ax_iconst (pc := 29) (v := 0) C dX7_thought_29 (by decide) ?_
      refine ax_istore_4 (pc := 30) C dX7_thought_30 rfl ?_
      have loop : ∀ (q : Nat) (k : Nat), k ≤ 12 → 12 < k + q → ax_S x Y ad 0 0 (ax_Q x Y ad (some (.int (nI (ms_k (fun k => decide (mt_S (ly_S (ax_up σ 77 0 0) n n) c n (k + 1) 89 c = hr)) 12)))) 96 (ax_g Y ad (mt_S (ly_S (ax_up σ 77 0 0) n n) c n 12)) 0 0) (mt_S (ly_S (ax_up σ 77 0 0) n n) c n k) 32 [some (.ref (ad 77)), some (.int (nI c)), some (.int (hr)), some (.int (nI (ms_k (fun k => decide (mt_S (ly_S (ax_up σ 77 0 0) n n) c n (k + 1) 89 c = hr)) k))), some (.int (nI k))] [] := by
        intro q
        induction q with
        | zero => intro k h1 h2; exfalso; omega
        | succ q ih =>
          intro k h1 h2
          refine ax_iload_4 (pc := 32) C dX7_thought_32 ?_
          refine ax_bipush (pc := 34) (v := 11) C dX7_thought_34 (by decide) ?_
          refine ax_icmp_gt (pc := 36) (tgt := 78) C dX7_thought_36 (by decide) (fun h36 => ?_) (fun h36 => ?_)
          · have hk36 : ¬ k ≤ 11 := fun z => absurd (nI_le (b := 11) z (by decide)) (Int32.not_le.mpr h36)
            refine ax_iload_3 (pc := 78) C dX7_thought_78 ?_
            exact ax_ir (pc := 79) C rfl dX7_thought_79 (by rw [show k = 12 by omega]) (by rw [show k = 12 by omega])
          · have hk36 : k ≤ 11 := Nat.le_of_not_lt (fun z => h36 (nI_lt (a := 11) z (by omega)))
            refine ax_aload_0 (pc := 39) C dX7_thought_39 ?_
            refine ax_getR (pc := 40) C fX7_40 dX7_thought_40 rfl rfl ?_
            refine ax_iload_1 (pc := 43) C dX7_thought_43 ?_
            refine ax_iload_4 (pc := 44) C dX7_thought_44 ?_
            refine ax_isn (pc := 46) C dX7_thought_46 rfl (by omega) (by omega) ?_
            refine ax_aload_0 (pc := 47) C dX7_thought_47 ?_
            refine ax_callVv (pc := 48) C (show ax_m Y ad _ iX7_goDay 4 _ _ none (mt_S (ly_S (ax_up σ 77 0 0) n n) c n (k + 1)) from w_X7_goDay F (n := n) (by rw [up_ne (by decide), mt_n]; exact ly_20) (by omega)) kX7_goDay mX7_238 dX7_thought_48 (by decide) rfl rfl rfl rfl rfl (Nat.le_of_ble_eq_true rfl) rfl ⟨Nat.le_refl _, Nat.le_refl _⟩ ?_
            refine ax_iload_3 (pc := 51) C dX7_thought_51 ?_
            refine ax_aload_0 (pc := 52) C dX7_thought_52 ?_
            refine ax_getR (pc := 53) C fX7_43 dX7_thought_53 rfl rfl ?_
            refine ax_iload_1 (pc := 56) C dX7_thought_56 ?_
            refine ax_ian (pc := 57) C dX7_thought_57 rfl (by omega) (by omega) ?_
            refine ax_iload_2 (pc := 58) C dX7_thought_58 ?_
            refine ax_icmp_ne (pc := 59) (tgt := 69) C dX7_thought_59 (by decide) (fun h59 => ?_) (fun h59 => ?_)
            · refine ax_iconst (pc := 69) (v := 0) C dX7_thought_69 (by decide) ?_
              refine ax_ior (pc := 70) C dX7_thought_70 ?_
              refine ax_istore_3 (pc := 71) C dX7_thought_71 rfl ?_
              refine ax_iinc_4 (pc := 72) C dX7_thought_72 (1) (by decide) rfl ?_
              refine ax_goto (pc := 75) (tgt := 32) C dX7_thought_75 (by decide) ?_
              have hst : ¬ (fun k => decide (mt_S (ly_S (ax_up σ 77 0 0) n n) c n (k + 1) 89 c = hr)) k = true := fun z => h59 (of_decide_eq_true z)
              refine ax_SLeq rfl (by rw [ms_skip hst, nI_1, Int32.or_zero]) (ih (k + 1) (by omega) (by omega))
            · refine ax_iconst (pc := 62) (v := 1) C dX7_thought_62 (by decide) ?_
              refine ax_iload_4 (pc := 63) C dX7_thought_63 ?_
              refine ax_ishl (pc := 65) C dX7_thought_65 ?_
              refine ax_goto (pc := 66) (tgt := 70) C dX7_thought_66 (by decide) ?_
              refine ax_ior (pc := 70) C dX7_thought_70 ?_
              refine ax_istore_3 (pc := 71) C dX7_thought_71 rfl ?_
              refine ax_iinc_4 (pc := 72) C dX7_thought_72 (1) (by decide) rfl ?_
              refine ax_goto (pc := 75) (tgt := 32) C dX7_thought_75 (by decide) ?_
              have hst : (fun k => decide (mt_S (ly_S (ax_up σ 77 0 0) n n) c n (k + 1) 89 c = hr)) k = true := decide_eq_true h59
              refine ax_SLeq rfl (by rw [ms_add (by omega) hst, nI_1]) (ih (k + 1) (by omega) (by omega))
      exact loop 13 0 (by omega) (by omega)
    · have h17 := ax_beq h17
      refine ax_ldc (pc := 20) C dX7_thought_20 qX7_85 ?_
      exact ax_ir (pc := 22) C rfl dX7_thought_22 (by first | with_reducible rfl | (simp only [h10, h17, if_true, if_false, true_and, and_true, false_and, and_false, not_false_eq_true, not_true_eq_false]; done) | (simp only [h10, h17, if_true, if_false, true_and, and_true, false_and, and_false, not_false_eq_true, not_true_eq_false]; with_reducible rfl)) (by first | with_reducible rfl | (simp only [h10, h17, if_true, if_false, true_and, and_true, false_and, and_false, not_false_eq_true, not_true_eq_false]; done) | (simp only [h10, h17, if_true, if_false, true_and, and_true, false_and, and_false, not_false_eq_true, not_true_eq_false]; with_reducible rfl))

set_option maxRecDepth 20000 in
set_option maxHeartbeats 4000000 in
theorem w_X7_goat {Y : ax_Y} {ad : Nat → Nat} (F : ax_F Y) {l : Launch} {σ : ax_Z} {n : Nat} (hn : σ 81 0 = nI n) (h6 : n ≤ 6) {cart hr : Int32} : ax_m Y ad l iX7_goat 5 σ [.ref (ad 77), .int cart, .int hr] (some (.int (if (0 ≤ cart ∧ cart ≤ nI n - 1) ∧ (0 ≤ hr ∧ hr ≤ 11) then mc (md_go (ax_up (ax_up (ax_up (ax_up (ax_up (md_go (ly_S (ax_up σ 77 0 0) n n) n) 77 20 (nI (n + 1))) 85 n 5) 86 n hr) 87 n 0) 88 n 0) (n + 1)) cart.toNatClampNeg + (md_go (ax_up (ax_up (ax_up (ax_up (ax_up (md_go (ly_S (ax_up σ 77 0 0) n n) n) 77 20 (nI (n + 1))) 85 n 5) 86 n hr) 87 n 0) 88 n 0) (n + 1)) 90 n - mc (md_go (ly_S (ax_up σ 77 0 0) n n) n) cart.toNatClampNeg else -1000001))) (if (0 ≤ cart ∧ cart ≤ nI n - 1) ∧ (0 ≤ hr ∧ hr ≤ 11) then (md_go (ax_up (ax_up (ax_up (ax_up (ax_up (md_go (ly_S (ax_up σ 77 0 0) n n) n) 77 20 (nI (n + 1))) 85 n 5) 86 n hr) 87 n 0) 88 n 0) (n + 1)) else (ax_up σ 77 0 0)) := by
  refine ax_m.of F kX7_goat.1 [some (.ref (ad 77)), some (.int (cart)), some (.int (hr)), none, none] rfl (Nat.le_of_ble_eq_true rfl) (fun x C => ?_)
  refine ax_aload_0 (pc := 0) C dX7_goat_0 ?_
  refine ax_iconst (pc := 1) (v := 0) C dX7_goat_1 (by decide) ?_
  refine ax_putI (pc := 2) C fX7_65 dX7_goat_2 rfl rfl rfl rfl ?_
  refine ax_aload_0 (pc := 5) C dX7_goat_5 ?_
  refine ax_iload_1 (pc := 6) C dX7_goat_6 ?_
  refine ax_callVi (pc := 7) C (w_X7_isCart F (n := n) (by rw [up_ne (by decide)]; exact hn)) kX7_isCart mX7_230 dX7_goat_7 (by decide) rfl rfl rfl rfl rfl (Nat.le_of_ble_eq_true rfl) rfl ⟨Nat.le_refl _, Nat.le_refl _⟩ ?_
  refine ax_if_eq (pc := 10) (tgt := 20) C dX7_goat_10 (by decide) (fun h10 => ?_) (fun h10 => ?_)
  · have h10 := ax_beq h10
    refine ax_ldc (pc := 20) C dX7_goat_20 qX7_85 ?_
    exact ax_ir (pc := 22) C rfl dX7_goat_22 (by first | with_reducible rfl | (simp only [h10, if_true, if_false, true_and, and_true, false_and, and_false, not_false_eq_true, not_true_eq_false]; done) | (simp only [h10, if_true, if_false, true_and, and_true, false_and, and_false, not_false_eq_true, not_true_eq_false]; with_reducible rfl)) (by first | with_reducible rfl | (simp only [h10, if_true, if_false, true_and, and_true, false_and, and_false, not_false_eq_true, not_true_eq_false]; done) | (simp only [h10, if_true, if_false, true_and, and_true, false_and, and_false, not_false_eq_true, not_true_eq_false]; with_reducible rfl))
  · have h10 := ax_bne h10
    refine ax_iload_2 (pc := 13) C dX7_goat_13 ?_
    refine ax_callSi (pc := 14) C (w_X7_isHour F) kX7_isHour mX7_251 dX7_goat_14 (by decide) rfl rfl (Nat.le_of_ble_eq_true rfl) rfl ⟨Nat.le_refl _, Nat.le_refl _⟩ ?_
    refine ax_if_ne (pc := 17) (tgt := 23) C dX7_goat_17 (by decide) (fun h17 => ?_) (fun h17 => ?_)
    · have h17 := ax_bne h17
      obtain ⟨c, hc, rfl⟩ := ax_ixN (by omega) h10
      have ec : (nI c).toNatClampNeg = c := nI_clamp (by omega)
      have hq := And.intro h10 h17
      simp only [if_pos hq, ec]
      refine ax_aload_0 (pc := 23) C dX7_goat_23 ?_
      refine ax_callVv (pc := 24) C (w_X7_layNow F (n := n) (by rw [up_ne (by decide)]; exact hn) h6) kX7_layNow mX7_227 dX7_goat_24 (by decide) rfl rfl rfl rfl rfl (Nat.le_of_ble_eq_true rfl) rfl ⟨Nat.le_refl _, Nat.le_refl _⟩ ?_
      refine ax_aload_0 (pc := 27) C dX7_goat_27 ?_
      refine ax_callVv (pc := 28) C (w_X7_goDay F (n := n) ly_20 (by omega)) kX7_goDay mX7_238 dX7_goat_28 (by decide) rfl rfl rfl rfl rfl (Nat.le_of_ble_eq_true rfl) rfl ⟨Nat.le_refl _, Nat.le_refl _⟩ ?_
      refine ax_aload_0 (pc := 31) C dX7_goat_31 ?_
      refine ax_iload_1 (pc := 32) C dX7_goat_32 ?_
      refine ax_callVi (pc := 33) C (w_X7_cost F (by omega)) kX7_costOf mX7_235 dX7_goat_33 (by decide) rfl rfl rfl rfl rfl (Nat.le_of_ble_eq_true rfl) rfl ⟨Nat.le_refl _, Nat.le_refl _⟩ ?_
      refine ax_istore_3 (pc := 36) C dX7_goat_36 rfl ?_
      refine ax_aload_0 (pc := 37) C dX7_goat_37 ?_
      refine ax_getI (pc := 38) C fX7_195 dX7_goat_38 rfl rfl ?_
      refine ax_val C (show _ = nI n by rw [md_go_ne (by decide)]; exact ly_20) ?_
      refine ax_istore_4 (pc := 41) C dX7_goat_41 rfl ?_
      refine ax_aload_0 (pc := 43) C dX7_goat_43 ?_
      refine ax_dup (pc := 44) C dX7_goat_44 rfl ?_
      refine ax_getI (pc := 45) C fX7_195 dX7_goat_45 rfl rfl ?_
      refine ax_val C (show _ = nI n by rw [md_go_ne (by decide)]; exact ly_20) ?_
      refine ax_iconst (pc := 48) (v := 1) C dX7_goat_48 (by decide) ?_
      refine ax_iadd (pc := 49) C dX7_goat_49 ?_
      refine ax_val C (nI_1 n) ?_
      refine ax_putI (pc := 50) C fX7_195 dX7_goat_50 rfl rfl rfl rfl ?_
      refine ax_aload_0 (pc := 53) C dX7_goat_53 ?_
      refine ax_getR (pc := 54) C fX7_31 dX7_goat_54 rfl rfl ?_
      refine ax_iload_4 (pc := 57) C dX7_goat_57 ?_
      refine ax_iconst (pc := 59) (v := 5) C dX7_goat_59 (by decide) ?_
      refine ax_isn (pc := 60) C dX7_goat_60 rfl (by omega) (by omega) ?_
      refine ax_aload_0 (pc := 61) C dX7_goat_61 ?_
      refine ax_getR (pc := 62) C fX7_34 dX7_goat_62 rfl rfl ?_
      refine ax_iload_4 (pc := 65) C dX7_goat_65 ?_
      refine ax_iload_2 (pc := 67) C dX7_goat_67 ?_
      refine ax_isn (pc := 68) C dX7_goat_68 rfl (by omega) (by omega) ?_
      refine ax_aload_0 (pc := 69) C dX7_goat_69 ?_
      refine ax_getR (pc := 70) C fX7_37 dX7_goat_70 rfl rfl ?_
      refine ax_iload_4 (pc := 73) C dX7_goat_73 ?_
      refine ax_iconst (pc := 75) (v := 0) C dX7_goat_75 (by decide) ?_
      refine ax_isn (pc := 76) C dX7_goat_76 rfl (by omega) (by omega) ?_
      refine ax_aload_0 (pc := 77) C dX7_goat_77 ?_
      refine ax_getR (pc := 78) C fX7_40 dX7_goat_78 rfl rfl ?_
      refine ax_iload_4 (pc := 81) C dX7_goat_81 ?_
      refine ax_iconst (pc := 83) (v := 0) C dX7_goat_83 (by decide) ?_
      refine ax_isn (pc := 84) C dX7_goat_84 rfl (by omega) (by omega) ?_
      refine ax_aload_0 (pc := 85) C dX7_goat_85 ?_
      refine ax_callVv (pc := 86) C (w_X7_goDay F (n := n + 1) (by simp (disch := decide) only [up_ne, up_s]) (by omega)) kX7_goDay mX7_238 dX7_goat_86 (by decide) rfl rfl rfl rfl rfl (Nat.le_of_ble_eq_true rfl) rfl ⟨Nat.le_refl _, Nat.le_refl _⟩ ?_
      refine ax_aload_0 (pc := 89) C dX7_goat_89 ?_
      refine ax_iload_1 (pc := 90) C dX7_goat_90 ?_
      refine ax_callVi (pc := 91) C (w_X7_cost F (by omega)) kX7_costOf mX7_235 dX7_goat_91 (by decide) rfl rfl rfl rfl rfl (Nat.le_of_ble_eq_true rfl) rfl ⟨Nat.le_refl _, Nat.le_refl _⟩ ?_
      refine ax_aload_0 (pc := 94) C dX7_goat_94 ?_
      refine ax_getR (pc := 95) C fX7_46 dX7_goat_95 rfl rfl ?_
      refine ax_iload_4 (pc := 98) C dX7_goat_98 ?_
      refine ax_ian (pc := 100) C dX7_goat_100 rfl (by omega) (by omega) ?_
      refine ax_iadd (pc := 101) C dX7_goat_101 ?_
      refine ax_iload_3 (pc := 102) C dX7_goat_102 ?_
      refine ax_isub (pc := 103) C dX7_goat_103 ?_
      exact ax_ir (pc := 104) C rfl dX7_goat_104 rfl rfl
    · have h17 := ax_beq h17
      refine ax_ldc (pc := 20) C dX7_goat_20 qX7_85 ?_
      exact ax_ir (pc := 22) C rfl dX7_goat_22 (by first | with_reducible rfl | (simp only [h10, h17, if_true, if_false, true_and, and_true, false_and, and_false, not_false_eq_true, not_true_eq_false]; done) | (simp only [h10, h17, if_true, if_false, true_and, and_true, false_and, and_false, not_false_eq_true, not_true_eq_false]; with_reducible rfl)) (by first | with_reducible rfl | (simp only [h10, h17, if_true, if_false, true_and, and_true, false_and, and_false, not_false_eq_true, not_true_eq_false]; done) | (simp only [h10, h17, if_true, if_false, true_and, and_true, false_and, and_false, not_false_eq_true, not_true_eq_false]; with_reducible rfl))

set_option maxRecDepth 20000 in
set_option maxHeartbeats 4000000 in
theorem w_X7_part {Y : ax_Y} {ad : Nat → Nat} (F : ax_F Y) {l : Launch} {σ : ax_Z} {a b v : Int32} (hb : ¬ b = 0) : ax_m Y ad l iX7_part 0 σ [.int a, .int b, .int v] (some (.int (a / b + (if v < a - a / b * b then 1 else 0)))) σ := by
  refine ax_m.of F kX7_part.1 [some (.int (a)), some (.int (b)), some (.int (v))] rfl (Nat.le_of_ble_eq_true rfl) (fun x C => ?_)
  refine ax_iload_0 (pc := 0) C dX7_part_0 ?_
  refine ax_iload_1 (pc := 1) C dX7_part_1 ?_
  refine ax_idiv (pc := 2) C dX7_part_2 (by assumption) ?_
  refine ax_iload_2 (pc := 3) C dX7_part_3 ?_
  refine ax_iload_0 (pc := 4) C dX7_part_4 ?_
  refine ax_iload_1 (pc := 5) C dX7_part_5 ?_
  refine ax_irem (pc := 6) C dX7_part_6 (by assumption) ?_
  refine ax_icmp_ge (pc := 7) (tgt := 14) C dX7_part_7 (by decide) (fun h7 => ?_) (fun h7 => ?_)
  · refine ax_iconst (pc := 14) (v := 0) C dX7_part_14 (by decide) ?_
    refine ax_iadd (pc := 15) C dX7_part_15 ?_
    exact ax_ir (pc := 16) C rfl dX7_part_16 (by rw [if_neg (Int32.not_lt.mpr h7)]) rfl
  · refine ax_iconst (pc := 10) (v := 1) C dX7_part_10 (by decide) ?_
    refine ax_goto (pc := 11) (tgt := 15) C dX7_part_11 (by decide) ?_
    refine ax_iadd (pc := 15) C dX7_part_15 ?_
    exact ax_ir (pc := 16) C rfl dX7_part_16 (by rw [if_pos (Int32.not_le.mp h7)]) rfl

set_option maxRecDepth 20000 in
set_option maxHeartbeats 4000000 in
theorem w_X7_size {Y : ax_Y} {ad : Nat → Nat} (F : ax_F Y) {l : Launch} {σ : ax_Z} : ax_m Y ad l iX7_size 1 σ [.ref (ad 77)] (some (.int (if (ax_up σ 77 0 0) 77 7 = 0 then -1000002 else nI (hs_cs (fun t => (ax_up σ 77 0 0) 81 (2 + t)) 6)))) (ax_up σ 77 0 0) := by
  refine ax_m.of F kX7_size.1 [some (.ref (ad 77)), none, none] rfl (Nat.le_of_ble_eq_true rfl) (fun x C => ?_)
  refine ax_aload_0 (pc := 0) C dX7_size_0 ?_
  refine ax_iconst (pc := 1) (v := 0) C dX7_size_1 (by decide) ?_
  refine ax_putI (pc := 2) C fX7_65 dX7_size_2 rfl rfl rfl rfl ?_
  refine ax_aload_0 (pc := 5) C dX7_size_5 ?_
  refine ax_getI (pc := 6) C fX7_186 dX7_size_6 rfl rfl ?_
  refine ax_if_ne (pc := 9) (tgt := 15) C dX7_size_9 (by decide) (fun h9 => ?_) (fun h9 => ?_)
  · rw [if_neg h9]
    refine ax_iconst (pc := 15) (v := 1) C dX7_size_15 (by decide) ?_
    refine ax_istore_1 (pc := 16) C dX7_size_16 rfl ?_
    refine ax_iconst (pc := 17) (v := 2) C dX7_size_17 (by decide) ?_
    refine ax_istore_2 (pc := 18) C dX7_size_18 rfl ?_
    have loop : ∀ (q : Nat) (m : Nat), 1 ≤ m → m ≤ 6 → 6 < m + q → ax_S x Y ad 0 0 (ax_Q x Y ad (some (.int (nI (hs_cs (fun t => (ax_up σ 77 0 0) 81 (2 + t)) 6)))) 96 (ax_g Y ad (ax_up σ 77 0 0)) 0 0) (ax_up σ 77 0 0) 19 [some (.ref (ad 77)), some (.int (nI (hs_cs (fun t => (ax_up σ 77 0 0) 81 (2 + t)) m))), some (.int (nI (m + 1)))] [] := by
      intro q
      induction q with
      | zero => intro m m1 m2 m3; exfalso; omega
      | succ q ih =>
        intro m m1 m2 m3
        have hcs := hs_cs_in (fun t => (ax_up σ 77 0 0) 81 (2 + t)) m
        refine ax_iload_2 (pc := 19) C dX7_size_19 ?_
        refine ax_bipush (pc := 20) (v := 6) C dX7_size_20 (by decide) ?_
        refine ax_icmp_gt (pc := 22) (tgt := 54) C dX7_size_22 (by decide) (fun h22 => ?_) (fun h22 => ?_)
        · have hm6 : ¬ m < 6 := fun z => nI_nlt (a := 6) (b := m + 1) z (by omega) h22
          refine ax_iload_1 (pc := 54) C dX7_size_54 ?_
          exact ax_ir (pc := 55) C rfl dX7_size_55 (by rw [show m = 6 by omega]) rfl
        · have hm6 : m < 6 := Nat.lt_of_not_le (fun z => h22 (nI_lt (a := 6) (b := m + 1) (by omega) (by omega)))
          refine ax_aload_0 (pc := 25) C dX7_size_25 ?_
          refine ax_iload_2 (pc := 26) C dX7_size_26 ?_
          refine ax_callVi (pc := 27) C (w_X7_tollFor F (by omega) (by omega)) kX7_tollFor mX7_217 dX7_size_27 (by decide) rfl rfl rfl rfl rfl (Nat.le_of_ble_eq_true rfl) rfl ⟨Nat.le_refl _, Nat.le_refl _⟩ ?_
          refine ax_iload_1 (pc := 30) C dX7_size_30 ?_
          refine ax_imul (pc := 31) C dX7_size_31 ?_
          refine ax_aload_0 (pc := 32) C dX7_size_32 ?_
          refine ax_iload_1 (pc := 33) C dX7_size_33 ?_
          refine ax_callVi (pc := 34) C (w_X7_tollFor F (by omega) (by omega)) kX7_tollFor mX7_217 dX7_size_34 (by decide) rfl rfl rfl rfl rfl (Nat.le_of_ble_eq_true rfl) rfl ⟨Nat.le_refl _, Nat.le_refl _⟩ ?_
          refine ax_iload_2 (pc := 37) C dX7_size_37 ?_
          refine ax_imul (pc := 38) C dX7_size_38 ?_
          refine ax_icmp_ge (pc := 39) (tgt := 46) C dX7_size_39 (by decide) (fun h39 => ?_) (fun h39 => ?_)
          · refine ax_iload_1 (pc := 46) C dX7_size_46 ?_
            refine ax_istore_1 (pc := 47) C dX7_size_47 rfl ?_
            refine ax_iinc_2 (pc := 48) C dX7_size_48 (1) (by decide) rfl ?_
            refine ax_goto (pc := 51) (tgt := 19) C dX7_size_51 (by decide) ?_
            refine ax_Leq ?_ (ih (m + 1) (by omega) (by omega) (by omega))
            conv => rhs; rw [hs_cs]
            rw [if_neg (by omega), if_neg (Int32.not_lt.mpr h39), nI_1]
          · refine ax_iload_2 (pc := 42) C dX7_size_42 ?_
            refine ax_goto (pc := 43) (tgt := 47) C dX7_size_43 (by decide) ?_
            refine ax_istore_1 (pc := 47) C dX7_size_47 rfl ?_
            refine ax_iinc_2 (pc := 48) C dX7_size_48 (1) (by decide) rfl ?_
            refine ax_goto (pc := 51) (tgt := 19) C dX7_size_51 (by decide) ?_
            refine ax_Leq ?_ (ih (m + 1) (by omega) (by omega) (by omega))
            conv => rhs; rw [hs_cs]
            rw [if_neg (by omega), if_pos (Int32.not_le.mp h39), nI_1]
    exact loop 6 1 (by decide) (by decide) (by decide)
  · refine ax_ldc (pc := 12) C dX7_size_12 qX7_223 ?_
    exact ax_ir (pc := 14) C rfl dX7_size_14 (by rw [if_pos h9]) rfl

set_option maxRecDepth 20000 in
set_option maxHeartbeats 4000000 in
theorem w_X7_book {Y : ax_Y} {ad : Nat → Nat} (F : ax_F Y) {l : Launch} {σ : ax_Z} {n : Nat} (hn : σ 81 0 = nI n) (h6 : n ≤ 6) {cart k : Int32} : ax_m Y ad l iX7_book 5 σ [.ref (ad 77), .int cart, .int k] (some (.int (if (0 ≤ cart ∧ cart ≤ nI n - 1) ∧ (1 ≤ k ∧ k ≤ 30) then mk_S (fin (ax_up (ly_S (ax_up σ 77 0 0) n n) 77 29 1) 92 0 7 0) n k.toNatClampNeg 92 cart.toNatClampNeg else -1000001))) (if (0 ≤ cart ∧ cart ≤ nI n - 1) ∧ (1 ≤ k ∧ k ≤ 30) then mk_S (fin (ax_up (ly_S (ax_up σ 77 0 0) n n) 77 29 1) 92 0 7 0) n k.toNatClampNeg else (ax_up σ 77 0 0)) := by
  refine ax_m.of F kX7_book.1 [some (.ref (ad 77)), some (.int (cart)), some (.int (k)), none] rfl (Nat.le_of_ble_eq_true rfl) (fun x C => ?_)
  refine ax_aload_0 (pc := 0) C dX7_book_0 ?_
  refine ax_iconst (pc := 1) (v := 0) C dX7_book_1 (by decide) ?_
  refine ax_putI (pc := 2) C fX7_65 dX7_book_2 rfl rfl rfl rfl ?_
  refine ax_aload_0 (pc := 5) C dX7_book_5 ?_
  refine ax_iload_1 (pc := 6) C dX7_book_6 ?_
  refine ax_callVi (pc := 7) C (w_X7_isCart F (n := n) (by rw [up_ne (by decide)]; exact hn)) kX7_isCart mX7_230 dX7_book_7 (by decide) rfl rfl rfl rfl rfl (Nat.le_of_ble_eq_true rfl) rfl ⟨Nat.le_refl _, Nat.le_refl _⟩ ?_
  refine ax_if_eq (pc := 10) (tgt := 25) C dX7_book_10 (by decide) (fun h10 => ?_) (fun h10 => ?_)
  · have h10 := ax_beq h10
    refine ax_ldc (pc := 25) C dX7_book_25 qX7_85 ?_
    exact ax_ir (pc := 27) C rfl dX7_book_27 (by first | with_reducible rfl | (simp only [h10, if_true, if_false, true_and, and_true, false_and, and_false, not_false_eq_true, not_true_eq_false]; done) | (simp only [h10, if_true, if_false, true_and, and_true, false_and, and_false, not_false_eq_true, not_true_eq_false]; with_reducible rfl)) (by first | with_reducible rfl | (simp only [h10, if_true, if_false, true_and, and_true, false_and, and_false, not_false_eq_true, not_true_eq_false]; done) | (simp only [h10, if_true, if_false, true_and, and_true, false_and, and_false, not_false_eq_true, not_true_eq_false]; with_reducible rfl))
  · have h10 := ax_bne h10
    refine ax_iload_2 (pc := 13) C dX7_book_13 ?_
    refine ax_i2l (pc := 14) C dX7_book_14 ?_
    refine ax_lconst (pc := 15) (v := 1) C dX7_book_15 (by decide) ?_
    refine ax_ldc2 (pc := 16) C dX7_book_16 qX7_260 ?_
    refine ax_callSi (pc := 19) C (w_X7_in F (lo := (1)) (hi := (30)) rfl rfl) kX7_in mX7_75 dX7_book_19 (by decide) rfl rfl (Nat.le_of_ble_eq_true rfl) rfl ⟨Nat.le_refl _, Nat.le_refl _⟩ ?_
    refine ax_if_ne (pc := 22) (tgt := 28) C dX7_book_22 (by decide) (fun h22 => ?_) (fun h22 => ?_)
    · have h22 := ax_bne h22
      obtain ⟨c, hc, rfl⟩ := ax_ixN (by omega) h10
      have ec : (nI c).toNatClampNeg = c := nI_clamp (by omega)
      obtain ⟨K, hK, rfl⟩ := ax_ix (m := 30) (by decide) (show 0 ≤ k ∧ k ≤ 30 from ⟨Int32.le_trans (by decide) h22.1, h22.2⟩)
      have eK : (nI K).toNatClampNeg = K := nI_clamp (by omega)
      have hq := And.intro h10 h22
      simp only [if_pos hq, ec, eK]
      refine ax_aload_0 (pc := 28) C dX7_book_28 ?_
      refine ax_callVv (pc := 29) C (w_X7_layNow F (n := n) (by rw [up_ne (by decide)]; exact hn) h6) kX7_layNow mX7_227 dX7_book_29 (by decide) rfl rfl rfl rfl rfl (Nat.le_of_ble_eq_true rfl) rfl ⟨Nat.le_refl _, Nat.le_refl _⟩ ?_
      refine ax_aload_0 (pc := 32) C dX7_book_32 ?_
      refine ax_iconst (pc := 33) (v := 1) C dX7_book_33 (by decide) ?_
      refine ax_putI (pc := 34) C fX7_198 dX7_book_34 rfl rfl rfl rfl ?_
      refine ax_iconst (pc := 37) (v := 0) C dX7_book_37 (by decide) ?_
      refine ax_istore_3 (pc := 38) C dX7_book_38 rfl ?_
      have tl : ax_S x Y ad 0 0 (ax_Q x Y ad (some (.int (mk_S (fin (ax_up (ly_S (ax_up σ 77 0 0) n n) 77 29 1) 92 0 7 0) n K 92 c))) 96 (ax_g Y ad (mk_S (fin (ax_up (ly_S (ax_up σ 77 0 0) n n) 77 29 1) 92 0 7 0) n K)) 0 0) (fin (ax_up (ly_S (ax_up σ 77 0 0) n n) 77 29 1) 92 0 7 0) 58 [some (.ref (ad 77)), some (.int (nI c)), some (.int (nI K)), some (.int (nI 7))] [] := by
        have loop2 : ∀ (q : Nat) (m : Nat), m ≤ K → K < m + q → ax_S x Y ad 0 0 (ax_Q x Y ad (some (.int (mk_S (fin (ax_up (ly_S (ax_up σ 77 0 0) n n) 77 29 1) 92 0 7 0) n K 92 c))) 96 (ax_g Y ad (mk_S (fin (ax_up (ly_S (ax_up σ 77 0 0) n n) 77 29 1) 92 0 7 0) n K)) 0 0) (mk_S (fin (ax_up (ly_S (ax_up σ 77 0 0) n n) 77 29 1) 92 0 7 0) n m) 60 [some (.ref (ad 77)), some (.int (nI c)), some (.int (nI K)), some (.int (nI m))] [] := by
          intro q
          induction q with
          | zero => intro m h1 h2; exfalso; omega
          | succ q ih =>
            intro m h1 h2
            refine ax_iload_3 (pc := 60) C dX7_book_60 ?_
            refine ax_iload_2 (pc := 61) C dX7_book_61 ?_
            refine ax_icmp_ge (pc := 62) (tgt := 75) C dX7_book_62 (by decide) (fun h62 => ?_) (fun h62 => ?_)
            · have hm : ¬ m < K := fun z => nI_ge z (by omega) h62
              refine ax_aload_0 (pc := 75) C dX7_book_75 ?_
              refine ax_getR (pc := 76) C fX7_52 dX7_book_76 rfl rfl ?_
              refine ax_iload_1 (pc := 79) C dX7_book_79 ?_
              refine ax_ian (pc := 80) C dX7_book_80 rfl (by omega) (by omega) ?_
              exact ax_ir (pc := 81) C rfl dX7_book_81 (by rw [show m = K by omega]) (by rw [show m = K by omega])
            · have hm : m < K := Nat.lt_of_not_le (fun z => h62 (nI_le z (by omega)))
              refine ax_aload_0 (pc := 65) C dX7_book_65 ?_
              refine ax_callVv (pc := 66) C (w_X7_goDay F (n := n) (by rw [mk_n, fin_ne (by decide), up_o (by decide)]; exact ly_20) (by omega)) kX7_goDay mX7_238 dX7_book_66 (by decide) rfl rfl rfl rfl rfl (Nat.le_of_ble_eq_true rfl) rfl ⟨Nat.le_refl _, Nat.le_refl _⟩ ?_
              refine ax_iinc_3 (pc := 69) C dX7_book_69 (1) (by decide) rfl ?_
              refine ax_goto (pc := 72) (tgt := 60) C dX7_book_72 (by decide) ?_
              refine ax_SLeq rfl (by rw [nI_1]) (ih (m + 1) (by omega) (by omega))
        refine ax_iconst (pc := 58) (v := 0) C dX7_book_58 (by decide) ?_
        refine ax_istore_3 (pc := 59) C dX7_book_59 rfl ?_
        exact loop2 (K + 1) 0 (by omega) (by omega)
      have loop : ∀ (q : Nat) (m : Nat), m ≤ 7 → 7 < m + q → ax_S x Y ad 0 0 (ax_Q x Y ad (some (.int (mk_S (fin (ax_up (ly_S (ax_up σ 77 0 0) n n) 77 29 1) 92 0 7 0) n K 92 c))) 96 (ax_g Y ad (mk_S (fin (ax_up (ly_S (ax_up σ 77 0 0) n n) 77 29 1) 92 0 7 0) n K)) 0 0) (fin (ax_up (ly_S (ax_up σ 77 0 0) n n) 77 29 1) 92 0 m 0) 39 [some (.ref (ad 77)), some (.int (nI c)), some (.int (nI K)), some (.int (nI m))] [] := by
        intro q
        induction q with
        | zero => intro m h1 h2; exfalso; omega
        | succ q ih =>
          intro m h1 h2
          refine ax_iload_3 (pc := 39) C dX7_book_39 ?_
          refine ax_bipush (pc := 40) (v := 7) C dX7_book_40 (by decide) ?_
          refine ax_icmp_ge (pc := 42) (tgt := 58) C dX7_book_42 (by decide) (fun h42 => ?_) (fun h42 => ?_)
          · have hm42 : ¬ m < 7 := fun z => nI_ge (a := m) (b := 7) z (by decide) h42
            have em : m = 7 := by omega
            subst em
            exact tl
          · have hm42 : m < 7 := Nat.lt_of_not_le (fun z => h42 (nI_le (a := 7) z (by omega)))
            refine ax_aload_0 (pc := 45) C dX7_book_45 ?_
            refine ax_getR (pc := 46) C fX7_52 dX7_book_46 rfl rfl ?_
            refine ax_iload_3 (pc := 49) C dX7_book_49 ?_
            refine ax_iconst (pc := 50) (v := 0) C dX7_book_50 (by decide) ?_
            refine ax_isn (pc := 51) C dX7_book_51 rfl (by omega) (by omega) ?_
            refine ax_iinc_3 (pc := 52) C dX7_book_52 (1) (by decide) rfl ?_
            refine ax_goto (pc := 55) (tgt := 39) C dX7_book_55 (by decide) ?_
            refine ax_SLeq ?_ (by rw [nI_1]) (ih (m + 1) (by omega) (by omega))
            have e := fin_s (σ := ax_up (ly_S (ax_up σ 77 0 0) n n) 77 29 1) (k := 92) (d := 0) (n := m) (v := 0)
            rw [Nat.zero_add] at e
            exact e
      exact ax_Seq fin_0.symm (loop 8 0 (by omega) (by omega))
    · have h22 := ax_beq h22
      refine ax_ldc (pc := 25) C dX7_book_25 qX7_85 ?_
      exact ax_ir (pc := 27) C rfl dX7_book_27 (by first | with_reducible rfl | (simp only [h10, h22, if_true, if_false, true_and, and_true, false_and, and_false, not_false_eq_true, not_true_eq_false]; done) | (simp only [h10, h22, if_true, if_false, true_and, and_true, false_and, and_false, not_false_eq_true, not_true_eq_false]; with_reducible rfl)) (by first | with_reducible rfl | (simp only [h10, h22, if_true, if_false, true_and, and_true, false_and, and_false, not_false_eq_true, not_true_eq_false]; done) | (simp only [h10, h22, if_true, if_false, true_and, and_true, false_and, and_false, not_false_eq_true, not_true_eq_false]; with_reducible rfl))

set_option maxRecDepth 20000 in
set_option maxHeartbeats 4000000 in
theorem w_X7_hour {Y : ax_Y} {ad : Nat → Nat} (F : ax_F Y) {l : Launch} {σ : ax_Z} {n : Nat} (hn : σ 81 0 = nI n) (h6 : n ≤ 6) {m : Nat} (hm : σ 77 9 = nI m) (h24 : m ≤ 24) {h : Nat} (hh : σ 81 1 = nI h) (hh13 : h ≤ 12) : ax_m Y ad l iX7_hour 4 σ [.ref (ad 77)] (some (.int (if (ax_up σ 77 0 0) 77 7 = 0 then -1000002 else if nI h ≤ 11 then nI (mh_tm (ly_S (mk_keep (ax_up σ 77 0 0) m) n n) n (nI h)) else -1000003))) (if (ax_up σ 77 0 0) 77 7 = 0 then (ax_up σ 77 0 0) else if nI h ≤ 11 then ax_up (mw_S (mh_go (ly_S (mk_keep (ax_up σ 77 0 0) m) n n) n h) n) 81 1 (nI (h + 1)) else (ax_up σ 77 0 0)) := by
  refine ax_m.of F kX7_hour.1 [some (.ref (ad 77)), none, none] rfl (Nat.le_of_ble_eq_true rfl) (fun x C => ?_)
  refine ax_aload_0 (pc := 0) C dX7_hour_0 ?_
  refine ax_iconst (pc := 1) (v := 0) C dX7_hour_1 (by decide) ?_
  refine ax_putI (pc := 2) C fX7_65 dX7_hour_2 rfl rfl rfl rfl ?_
  refine ax_aload_0 (pc := 5) C dX7_hour_5 ?_
  refine ax_getI (pc := 6) C fX7_186 dX7_hour_6 rfl rfl ?_
  refine ax_if_ne (pc := 9) (tgt := 15) C dX7_hour_9 (by decide) (fun h9 => ?_) (fun h9 => ?_)
  · refine ax_aload_0 (pc := 15) C dX7_hour_15 ?_
    refine ax_getR (pc := 16) C fX7_19 dX7_hour_16 rfl rfl ?_
    refine ax_iconst (pc := 19) (v := 1) C dX7_hour_19 (by decide) ?_
    refine ax_iae (pc := 20) (c := 1) C dX7_hour_20 rfl rfl (by decide) (by decide) ?_
    refine ax_val C (show _ = nI h by rw [up_ne (by decide)]; exact hh) ?_
    refine ax_bipush (pc := 21) (v := 11) C dX7_hour_21 (by decide) ?_
    refine ax_icmp_le (pc := 23) (tgt := 29) C dX7_hour_23 (by decide) (fun h23 => ?_) (fun h23 => ?_)
    · have hh12 : h < 12 := by
        have z := (nI_leI (b := 11) (by omega) (by decide)).mp h23
        omega
      simp only [if_neg h9, if_pos h23]
      refine ax_aload_0 (pc := 29) C dX7_hour_29 ?_
      refine ax_callVv (pc := 30) C (w_X7_keep F (m := m) (by rw [up_o (by decide)]; exact hm) h24) kX7_keep mX7_224 dX7_hour_30 (by decide) rfl rfl rfl rfl rfl (Nat.le_of_ble_eq_true rfl) rfl ⟨Nat.le_refl _, Nat.le_refl _⟩ ?_
      refine ax_aload_0 (pc := 33) C dX7_hour_33 ?_
      refine ax_callVv (pc := 34) C (w_X7_layNow F (n := n) (by rw [mk_ne (by decide), up_ne (by decide)]; exact hn) h6) kX7_layNow mX7_227 dX7_hour_34 (by decide) rfl rfl rfl rfl rfl (Nat.le_of_ble_eq_true rfl) rfl ⟨Nat.le_refl _, Nat.le_refl _⟩ ?_
      refine ax_aload_0 (pc := 37) C dX7_hour_37 ?_
      refine ax_aload_0 (pc := 38) C dX7_hour_38 ?_
      refine ax_getR (pc := 39) C fX7_19 dX7_hour_39 rfl rfl ?_
      refine ax_iconst (pc := 42) (v := 1) C dX7_hour_42 (by decide) ?_
      refine ax_iae (pc := 43) (c := 1) C dX7_hour_43 rfl rfl (by decide) (by decide) ?_
      refine ax_val C (show _ = nI h by rw [ly_ne81, mk_ne (by decide), up_ne (by decide)]; exact hh) ?_
      refine ax_callVi (pc := 44) C (w_X7_goHour F (n := n) ly_20 (by omega) hh12) kX7_goHour mX7_220 dX7_hour_44 (by decide) rfl rfl rfl rfl rfl (Nat.le_of_ble_eq_true rfl) rfl ⟨Nat.le_refl _, Nat.le_refl _⟩ ?_
      refine ax_istore_1 (pc := 47) C dX7_hour_47 rfl ?_
      refine ax_iconst (pc := 48) (v := 0) C dX7_hour_48 (by decide) ?_
      refine ax_istore_2 (pc := 49) C dX7_hour_49 rfl ?_
      have loop : ∀ (q : Nat) (c : Nat), c ≤ n → n < c + q → ax_S x Y ad 0 0 (ax_Q x Y ad (some (.int (nI (mh_tm (ly_S (mk_keep (ax_up σ 77 0 0) m) n n) n (nI h))))) 96 (ax_g Y ad (ax_up (mw_S (mh_go (ly_S (mk_keep (ax_up σ 77 0 0) m) n n) n h) n) 81 1 (nI (h + 1)))) 0 0) (mw_S (mh_go (ly_S (mk_keep (ax_up σ 77 0 0) m) n n) n h) c) 50 [some (.ref (ad 77)), some (.int (nI (mh_tm (ly_S (mk_keep (ax_up σ 77 0 0) m) n n) n (nI h)))), some (.int (nI c))] [] := by
        intro q
        induction q with
        | zero => intro c h1 h2; exfalso; omega
        | succ q ih =>
          intro c h1 h2
          refine ax_iload_2 (pc := 50) C dX7_hour_50 ?_
          refine ax_aload_0 (pc := 51) C dX7_hour_51 ?_
          refine ax_getR (pc := 52) C fX7_19 dX7_hour_52 rfl rfl ?_
          refine ax_iconst (pc := 55) (v := 0) C dX7_hour_55 (by decide) ?_
          refine ax_iae (pc := 56) (c := 0) C dX7_hour_56 rfl rfl (by decide) (by decide) ?_
          refine ax_val C (show _ = nI n by rw [mw_lo (by decide), mh_go_ne (by decide), ly_ne81, mk_ne (by decide), up_ne (by decide)]; exact hn) ?_
          refine ax_icmp_ge (pc := 57) (tgt := 106) C dX7_hour_57 (by decide) (fun h57 => ?_) (fun h57 => ?_)
          · have hcn : ¬ c < n := fun q => nI_ge q (by omega) h57
            refine ax_aload_0 (pc := 106) C dX7_hour_106 ?_
            refine ax_getR (pc := 107) C fX7_19 dX7_hour_107 rfl rfl ?_
            refine ax_iconst (pc := 110) (v := 1) C dX7_hour_110 (by decide) ?_
            refine ax_dup2 (pc := 111) C dX7_hour_111 rfl rfl ?_
            refine ax_iae (pc := 112) (c := 1) C dX7_hour_112 rfl rfl (by decide) (by decide) ?_
            refine ax_val C (show _ = nI h by rw [mw_lo (by decide), mh_go_ne (by decide), ly_ne81, mk_ne (by decide), up_ne (by decide)]; exact hh) ?_
            refine ax_iconst (pc := 113) (v := 1) C dX7_hour_113 (by decide) ?_
            refine ax_iadd (pc := 114) C dX7_hour_114 ?_
            refine ax_val C (nI_1 h) ?_
            refine ax_ise (pc := 115) (c := 1) C dX7_hour_115 rfl rfl (by decide) (by decide) ?_
            refine ax_iload_1 (pc := 116) C dX7_hour_116 ?_
            exact ax_ir (pc := 117) C rfl dX7_hour_117 rfl (by rw [show c = n by omega])
          · have hcn : c < n := Nat.lt_of_not_le (fun q => h57 (nI_le q (by omega)))
            refine ax_aload_0 (pc := 60) C dX7_hour_60 ?_
            refine ax_getR (pc := 61) C fX7_19 dX7_hour_61 rfl rfl ?_
            refine ax_bipush (pc := 64) (v := 8) C dX7_hour_64 (by decide) ?_
            refine ax_bipush (pc := 66) (v := 6) C dX7_hour_66 (by decide) ?_
            refine ax_iload_2 (pc := 68) C dX7_hour_68 ?_
            refine ax_imul (pc := 69) C dX7_hour_69 ?_
            refine ax_iadd (pc := 70) C dX7_hour_70 ?_
            refine ax_iconst (pc := 71) (v := 4) C dX7_hour_71 (by decide) ?_
            refine ax_iadd (pc := 72) C dX7_hour_72 ?_
            refine ax_aload_0 (pc := 73) C dX7_hour_73 ?_
            refine ax_getR (pc := 74) C fX7_43 dX7_hour_74 rfl rfl ?_
            refine ax_iload_2 (pc := 77) C dX7_hour_77 ?_
            refine ax_ian (pc := 78) C dX7_hour_78 rfl (by omega) (by omega) ?_
            refine ax_val C (show _ = (mh_go (ly_S (mk_keep (ax_up σ 77 0 0) m) n n) n h) 89 c by rw [mw_ne (by decide)]) ?_
            refine ax_ise (pc := 79) (c := 8 + 6 * c + 4) C dX7_hour_79 rfl (ix8 (k := 4)) (by omega) (by decide) ?_
            refine ax_aload_0 (pc := 80) C dX7_hour_80 ?_
            refine ax_getR (pc := 81) C fX7_19 dX7_hour_81 rfl rfl ?_
            refine ax_bipush (pc := 84) (v := 8) C dX7_hour_84 (by decide) ?_
            refine ax_bipush (pc := 86) (v := 6) C dX7_hour_86 (by decide) ?_
            refine ax_iload_2 (pc := 88) C dX7_hour_88 ?_
            refine ax_imul (pc := 89) C dX7_hour_89 ?_
            refine ax_iadd (pc := 90) C dX7_hour_90 ?_
            refine ax_iconst (pc := 91) (v := 5) C dX7_hour_91 (by decide) ?_
            refine ax_iadd (pc := 92) C dX7_hour_92 ?_
            refine ax_aload_0 (pc := 93) C dX7_hour_93 ?_
            refine ax_getR (pc := 94) C fX7_46 dX7_hour_94 rfl rfl ?_
            refine ax_iload_2 (pc := 97) C dX7_hour_97 ?_
            refine ax_ian (pc := 98) C dX7_hour_98 rfl (by omega) (by omega) ?_
            refine ax_val C (show _ = (mh_go (ly_S (mk_keep (ax_up σ 77 0 0) m) n n) n h) 90 c by rw [up_ne (by decide), mw_ne (by decide)]) ?_
            refine ax_ise (pc := 99) (c := 8 + 6 * c + 5) C dX7_hour_99 rfl (ix8 (k := 5)) (by omega) (by decide) ?_
            refine ax_iinc_2 (pc := 100) C dX7_hour_100 (1) (by decide) rfl ?_
            refine ax_goto (pc := 103) (tgt := 50) C dX7_hour_103 (by decide) ?_
            refine ax_SLeq rfl (by rw [nI_1]) (ih (c + 1) (by omega) (by omega))
      exact loop (n + 1) 0 (by omega) (by omega)
    · refine ax_ldc (pc := 26) C dX7_hour_26 qX7_95 ?_
      exact ax_ir (pc := 28) C rfl dX7_hour_28 (by first | with_reducible rfl | (simp only [h9, h23, if_true, if_false, true_and, and_true, false_and, and_false, not_false_eq_true, not_true_eq_false]; done) | (simp only [h9, h23, if_true, if_false, true_and, and_true, false_and, and_false, not_false_eq_true, not_true_eq_false]; with_reducible rfl)) (by first | with_reducible rfl | (simp only [h9, h23, if_true, if_false, true_and, and_true, false_and, and_false, not_false_eq_true, not_true_eq_false]; done) | (simp only [h9, h23, if_true, if_false, true_and, and_true, false_and, and_false, not_false_eq_true, not_true_eq_false]; with_reducible rfl))
  · refine ax_ldc (pc := 12) C dX7_hour_12 qX7_223 ?_
    exact ax_ir (pc := 14) C rfl dX7_hour_14 (by first | with_reducible rfl | (simp only [h9, if_true, if_false, true_and, and_true, false_and, and_false, not_false_eq_true, not_true_eq_false]; done) | (simp only [h9, if_true, if_false, true_and, and_true, false_and, and_false, not_false_eq_true, not_true_eq_false]; with_reducible rfl)) (by first | with_reducible rfl | (simp only [h9, if_true, if_false, true_and, and_true, false_and, and_false, not_false_eq_true, not_true_eq_false]; done) | (simp only [h9, if_true, if_false, true_and, and_true, false_and, and_false, not_false_eq_true, not_true_eq_false]; with_reducible rfl))
