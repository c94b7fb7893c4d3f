theorem dd_y_in {K : dC} (k h : Nat) : (dd K k).2.2 h = -1 ∨ ∃ f, f < K.1 ∧ (dd K k).2.2 h = nI f := by
  induction k with
  | zero => exact Or.inl rfl
  | succ k ih =>
    show (dd_step K k (dd K k)).2.2 h = -1 ∨ _
    rw [show dd K (k + 1) = dd_step K k (dd K k) from rfl]
    unfold dd_step
    cases hf : dd_f K (dd K k).1 k with
    | none => exact ih
    | some f =>
      show upd _ k (nI f) h = -1 ∨ ∃ g, g < K.1 ∧ upd _ k (nI f) h = nI g
      by_cases e : h = k
      · subst e
        rw [pk_us]
        exact Or.inr ⟨f, (hs_f_lt hf).1, rfl⟩
      · rw [pk_un e]
        exact ih
theorem gcd_step {g l : Nat} (h : l < g) (h0 : 0 < l) {q : Nat} (hp : g * l < 2 ^ (q + 1)) : l * (g % l) < 2 ^ q := by
  have h1 : g % l < l := Nat.mod_lt _ h0
  have h2 : 2 * (g % l) ≤ g := by
    have := Nat.div_add_mod g l
    have h3 : 1 ≤ g / l := Nat.div_pos (by omega) h0
    have : l ≤ l * (g / l) := Nat.le_mul_of_pos_right l h3
    omega
  have h4 : 2 * (l * (g % l)) ≤ g * l := by
    calc 2 * (l * (g % l)) = l * (2 * (g % l)) := by rw [Nat.mul_left_comm]
      _ ≤ l * g := Nat.mul_le_mul_left l h2
      _ = g * l := Nat.mul_comm l g
  have : 2 ^ (q + 1) = 2 * 2 ^ q := by rw [Nat.pow_succ, Nat.mul_comm]
  omega
theorem bo_a_ne {tm py : Nat → Int32} (m : Nat) : True := trivial
/-- the state behind the first h hours of counting -/
def bo_S (τ : ax_Z) : Nat → ax_Z
  | 0 => τ
  | h + 1 => if τ 38 h = -1 then bo_S τ h else ax_up (bo_S τ h) 37 (τ 38 h).toNatClampNeg (bo_S τ h 37 (τ 38 h).toNatClampNeg + 1)
theorem bo_S_ne {τ : ax_Z} {h a : Nat} (ha : a ≠ 37) : bo_S τ h a = τ a := by
  induction h with
  | zero => rfl
  | succ h ih =>
    unfold bo_S
    split
    · exact ih
    · rw [up_ne ha, ih]
theorem bo_S_r {τ : ax_Z} {h : Nat} : bo_S τ h 37 = bo_a (τ 37) (τ 38) h := by
  induction h with
  | zero => rfl
  | succ h ih =>
    unfold bo_S bo_a
    split
    · exact ih
    · rw [ax_row, ih]
def bk_S (τ : ax_Z) (n : Nat) : Nat → ax_Z
  | 0 => τ
  | d + 1 => bo_S (hp_dy (bk_S τ n d) 29 n) 12
theorem bo_a_c {tm py py' : Nat → Int32} {h : Nat} (e : ∀ k, k < h → py k = py' k) : bo_a tm py h = bo_a tm py' h := by
  induction h with
  | zero => rfl
  | succ h ih =>
    unfold bo_a
    rw [ih (fun k hk => e k (by omega)), e h (by omega)]
theorem bk_S_o {τ : ax_Z} {n d b : Nat} (h : b ≠ 11) : bk_S τ n d 29 b = τ 29 b := by
  induction d with
  | zero => rfl
  | succ d ih => rw [bk_S, bo_S_ne (by decide), hp_dy_o h, ih]
theorem bk_S_fr {τ : ax_Z} {n d : Nat} : ax_fr 29 39 τ (bk_S τ n d) := by
  induction d with
  | zero => exact ax_fr.rf
  | succ d ih =>
    intro a h
    rw [bk_S, bo_S_ne (by omega), hp_dy_ne (by omega)]
    exact ih a h
theorem bk_S_K {τ : ax_Z} {n d : Nat} (h7 : n ≤ 7) : hp_K (bk_S τ n d) 29 n = tm_K (hp_K τ 29 n) (bo_f (hp_K τ 29 n) d) := by
  induction d with
  | zero => rfl
  | succ d ih =>
    have key : bk_S τ n (d + 1) 37 = bo_f (hp_K τ 29 n) (d + 1) := by
      rw [bk_S, bo_S_r, bo_f]
      have e1 : hp_dy (bk_S τ n d) 29 n 37 = bo_f (hp_K τ 29 n) d := by
        have := congrArg dC.tm ih
        exact (hp_dy_k (p := 29) (j := 8) (by omega)).trans this
      rw [e1]
      refine bo_a_c (fun k hk => ?_)
      rw [show hp_dy (bk_S τ n d) 29 n 38 k = DY (hp_K (bk_S τ n d) 29 n) k from hp_dy_y (p := 29) h7 hk, ih]
    have e2 : ∀ j, (j = 1 ∨ j = 2 ∨ j = 3 ∨ j = 5) → bk_S τ n (d + 1) (29 + j) = bk_S τ n d (29 + j) := by
      intro j hj
      rw [bk_S, bo_S_ne (by omega), hp_dy_k (by omega)]
    show (n, bk_S τ n (d + 1) (29 + 2), bk_S τ n (d + 1) (29 + 3), bk_S τ n (d + 1) (29 + 5), bk_S τ n (d + 1) 37, bk_S τ n (d + 1) (29 + 1)) = _
    rw [key, e2 2 (by omega), e2 3 (by omega), e2 5 (by omega), e2 1 (by omega)]
    have k1 := congrArg dC.kind ih
    have k2 := congrArg dC.come ih
    have k3 := congrArg dC.pat ih
    have k4 := congrArg dC.toll ih
    rw [show bk_S τ n d (29 + 2) = _ from k1, show bk_S τ n d (29 + 3) = _ from k2, show bk_S τ n d (29 + 5) = _ from k3, show bk_S τ n d (29 + 1) = _ from k4]
    rfl
theorem fd_le (T H P m : Nat) : fd_f T H P m ≤ T * 100 ^ m := by
  cases m with
  | zero => simp [fd_f]
  | succ m => exact Nat.min_le_right _ _
/-- the day with a goat -/
def gt_S (τ : ax_Z) (n : Nat) (hr : Int32) : ax_Z := ax_up (ax_up (ax_up (ax_up (ax_up τ 31 n 5) 32 n hr) 33 n 0) 34 n 0) 29 10 (nI (n + 1))
theorem gt_S_K {τ : ax_Z} {n : Nat} {hr : Int32} : hp_K (gt_S τ n hr) 29 (n + 1) = go_K (hp_K τ 29 n) hr := by
  show (n + 1, gt_S τ n hr 31, gt_S τ n hr 32, gt_S τ n hr 34, gt_S τ n hr 37, gt_S τ n hr 30) = _
  unfold gt_S
  simp (disch := omega) only [up_ne, ax_row]
  rfl

set_option maxRecDepth 20000 in
set_option maxHeartbeats 4000000 in
theorem w_X2_dayOf {Y : ax_Y} {ad : Nat → Nat} (F : ax_F Y) {l : Launch} {σ : ax_Z} {n : Nat} (hn : σ 14 10 = nI n) (h7 : n ≤ 7) (ht : σ 14 9 = 0 ∨ σ 14 9 = 1) : ax_m Y ad l iX2_dayOf 4 σ [.ref (ad 28), .ref (ad 14)] (some (.ref (ad 29))) (hp_dy (hp_bc σ 29 14) 29 n) := by
  have e10 : hp_bc σ 29 14 29 10 = nI n := by rw [← hn]; unfold hp_bc; rw [up_o (by decide), up_s]
  refine ax_m.of F kX2_dayOf.1 [some (.ref (ad 28)), some (.ref (ad 14))] rfl (Nat.le_of_ble_eq_true rfl) (fun x C => ?_)
  refine ax_aload_0 (pc := 0) C dX2_dayOf_0 ?_
  refine ax_getR (pc := 1) C fX2_12 dX2_dayOf_1 rfl rfl ?_
  refine ax_aload_1 (pc := 4) C dX2_dayOf_4 ?_
  refine ax_callVv (pc := 5) C (w_X3_become F ax_day ax_now (by decide) ht) kX3_become mX2_18 dX2_dayOf_5 (by decide) rfl rfl rfl rfl rfl (Nat.le_of_ble_eq_true rfl) rfl ⟨Nat.le_refl _, Nat.le_refl _⟩ ?_
  refine ax_aload_0 (pc := 8) C dX2_dayOf_8 ?_
  refine ax_getR (pc := 9) C fX2_12 dX2_dayOf_9 rfl rfl ?_
  refine ax_callVv (pc := 12) C (w_X3_runDay F ax_day (n := n) e10 h7) kX3_runDay mX2_22 dX2_dayOf_12 (by decide) rfl rfl rfl rfl rfl (Nat.le_of_ble_eq_true rfl) rfl ⟨Nat.le_refl _, Nat.le_refl _⟩ ?_
  refine ax_aload_0 (pc := 15) C dX2_dayOf_15 ?_
  refine ax_getR (pc := 16) C fX2_12 dX2_dayOf_16 rfl rfl ?_
  exact ax_ar (pc := 19) C rfl dX2_dayOf_19 rfl

set_option maxRecDepth 20000 in
set_option maxHeartbeats 4000000 in
theorem w_X2_takeBest {Y : ax_Y} {ad : Nat → Nat} (F : ax_F Y) {l : Launch} {σ : ax_Z} {n c : Nat} (hn : σ 29 10 = nI n) (h7 : n ≤ 7) (hc : c < 7) : ax_m Y ad l iX2_takeBest 4 σ [.ref (ad 28), .int (nI c)] (some (.int (ax_b (¬ nI (dd_B (σ 33) (hp_K σ 29 n) c) = σ 34 c)))) (tb_S σ n c) := by
  refine ax_m.of F kX2_takeBest.1 [some (.ref (ad 28)), some (.int (nI c)), none, none, none, none, none] rfl (Nat.le_of_ble_eq_true rfl) (fun x C => ?_)
  have fin : ∀ z : Option Value, ax_S x Y ad 0 0 (ax_Q x Y ad (some (.int (ax_b (¬ nI (dd_B (σ 33) (hp_K σ 29 n) c) = σ 34 c)))) 96 (ax_g Y ad (tb_S σ n c)) 0 0) (tb_S σ n c) 84 [some (.ref (ad 28)), some (.int (nI c)), some (.int (σ 34 c)), some (.int (nI (bk_f (fun m => dd_x (tb_K (hp_K σ 29 n) c (nI m)) (σ 33) c) 12).1)), some (.int ((bk_f (fun m => dd_x (tb_K (hp_K σ 29 n) c (nI m)) (σ 33) c) 12).2)), some (.int (nI 12)), z] [] := by
    intro z
    refine ax_iload_3 (pc := 84) C dX2_takeBest_84 ?_
    refine ax_iload_2 (pc := 85) C dX2_takeBest_85 ?_
    refine ax_icmp_eq (pc := 86) (tgt := 93) C dX2_takeBest_86 (by decide) (fun h86 => ?_) (fun h86 => ?_)
    · refine ax_iconst (pc := 93) (v := 0) C dX2_takeBest_93 (by decide) ?_
      exact ax_zr (pc := 94) C rfl rfl dX2_takeBest_94 (by simp_all [ax_b, dd_B]) rfl
    · refine ax_iconst (pc := 89) (v := 1) C dX2_takeBest_89 (by decide) ?_
      refine ax_goto (pc := 90) (tgt := 94) C dX2_takeBest_90 (by decide) ?_
      exact ax_zr (pc := 94) C rfl rfl dX2_takeBest_94 (by simp_all [ax_b, dd_B]) rfl
  have loop : ∀ (q : Nat) (m : Nat) (z : Option Value), m ≤ 12 → 12 < m + q → ax_S x Y ad 0 0 (ax_Q x Y ad (some (.int (ax_b (¬ nI (dd_B (σ 33) (hp_K σ 29 n) c) = σ 34 c)))) 96 (ax_g Y ad (tb_S σ n c)) 0 0) (tb_it σ n c m) 19 [some (.ref (ad 28)), some (.int (nI c)), some (.int (σ 34 c)), some (.int (nI (bk_f (fun m => dd_x (tb_K (hp_K σ 29 n) c (nI m)) (σ 33) c) m).1)), some (.int ((bk_f (fun m => dd_x (tb_K (hp_K σ 29 n) c (nI m)) (σ 33) c) m).2)), some (.int (nI m)), z] [] := by
    intro q
    induction q with
    | zero => intro m z h1 h2; exfalso; omega
    | succ q ih =>
      intro m z h1 h2
      refine ax_iload_5 (pc := 19) C dX2_takeBest_19 ?_
      refine ax_bipush (pc := 21) (v := 11) C dX2_takeBest_21 (by decide) ?_
      refine ax_icmp_gt (pc := 23) (tgt := 74) C dX2_takeBest_23 (by decide) (fun h23 => ?_) (fun h23 => ?_)
      · have hm : ¬ m < 12 := fun z => nI_nlt (a := 11) (b := m) (by omega) (by decide) h23
        refine ax_aload_0 (pc := 74) C dX2_takeBest_74 ?_
        refine ax_getR (pc := 75) C fX2_12 dX2_takeBest_75 rfl rfl ?_
        refine ax_getR (pc := 78) C fX2_29 dX2_takeBest_78 rfl rfl ?_
        refine ax_iload_1 (pc := 81) C dX2_takeBest_81 ?_
        refine ax_iload_3 (pc := 82) C dX2_takeBest_82 ?_
        refine ax_isn (pc := 83) C dX2_takeBest_83 rfl hc (by decide) ?_
        have hm12 : m = 12 := by omega
        subst hm12
        exact fin _
      · have hm : m < 12 := Nat.lt_of_not_le (fun z => h23 (nI_lt (a := 11) (b := m) (by omega) (by omega)))
        refine ax_aload_0 (pc := 26) C dX2_takeBest_26 ?_
        refine ax_getR (pc := 27) C fX2_12 dX2_takeBest_27 rfl rfl ?_
        refine ax_getR (pc := 30) C fX2_29 dX2_takeBest_30 rfl rfl ?_
        refine ax_iload_1 (pc := 33) C dX2_takeBest_33 ?_
        refine ax_iload_5 (pc := 34) C dX2_takeBest_34 ?_
        refine ax_isn (pc := 36) C dX2_takeBest_36 rfl hc (by decide) ?_
        refine ax_aload_0 (pc := 37) C dX2_takeBest_37 ?_
        refine ax_getR (pc := 38) C fX2_12 dX2_takeBest_38 rfl rfl ?_
        refine ax_callVv (pc := 41) C (w_X3_runDay F ax_day (n := n) (by rw [up_ne (by decide), tb_it_o (by decide)]; exact hn) h7) kX3_runDay mX2_22 dX2_takeBest_41 (by decide) rfl rfl rfl rfl rfl (Nat.le_of_ble_eq_true rfl) rfl ⟨Nat.le_refl _, Nat.le_refl _⟩ ?_
        refine ax_aload_0 (pc := 44) C dX2_takeBest_44 ?_
        refine ax_getR (pc := 45) C fX2_12 dX2_takeBest_45 rfl rfl ?_
        refine ax_iload_1 (pc := 48) C dX2_takeBest_48 ?_
        refine ax_callVi (pc := 49) C (w_X3_costOf F ax_day hc) kX3_costOf mX2_34 dX2_takeBest_49 (by decide) rfl rfl rfl rfl rfl (Nat.le_of_ble_eq_true rfl) rfl ⟨Nat.le_refl _, Nat.le_refl _⟩ ?_
        refine ax_val C (tb_cost h7 hc) ?_
        refine ax_istore_6 (pc := 52) C dX2_takeBest_52 rfl ?_
        refine ax_iload_6 (pc := 54) C dX2_takeBest_54 ?_
        refine ax_iload_4 (pc := 56) C dX2_takeBest_56 ?_
        refine ax_icmp_ge (pc := 58) (tgt := 68) C dX2_takeBest_58 (by decide) (fun h58 => ?_) (fun h58 => ?_)
        · refine ax_iinc_5 (pc := 68) C dX2_takeBest_68 (1) (by decide) rfl ?_
          refine ax_goto (pc := 71) (tgt := 19) C dX2_takeBest_71 (by decide) ?_
          refine ax_Leq ?_ (ih (m + 1) (some (.int (dd_x (tb_K (hp_K σ 29 n) c (nI m)) (σ 33) c))) (by omega) (by omega))
          rw [show bk_f (fun m => dd_x (tb_K (hp_K σ 29 n) c (nI m)) (σ 33) c) (m + 1) = bk_f (fun m => dd_x (tb_K (hp_K σ 29 n) c (nI m)) (σ 33) c) m from if_neg (Int32.not_lt.mpr h58), nI_1]
        · refine ax_iload_6 (pc := 61) C dX2_takeBest_61 ?_
          refine ax_istore_4 (pc := 63) C dX2_takeBest_63 rfl ?_
          refine ax_iload_5 (pc := 65) C dX2_takeBest_65 ?_
          refine ax_istore_3 (pc := 67) C dX2_takeBest_67 rfl ?_
          refine ax_iinc_5 (pc := 68) C dX2_takeBest_68 (1) (by decide) rfl ?_
          refine ax_goto (pc := 71) (tgt := 19) C dX2_takeBest_71 (by decide) ?_
          refine ax_Leq ?_ (ih (m + 1) (some (.int (dd_x (tb_K (hp_K σ 29 n) c (nI m)) (σ 33) c))) (by omega) (by omega))
          rw [show bk_f (fun m => dd_x (tb_K (hp_K σ 29 n) c (nI m)) (σ 33) c) (m + 1) = (m, dd_x (tb_K (hp_K σ 29 n) c (nI m)) (σ 33) c) from if_pos (Int32.not_le.mp h58), nI_1]
  refine ax_aload_0 (pc := 0) C dX2_takeBest_0 ?_
  refine ax_getR (pc := 1) C fX2_12 dX2_takeBest_1 rfl rfl ?_
  refine ax_getR (pc := 4) C fX2_29 dX2_takeBest_4 rfl rfl ?_
  refine ax_iload_1 (pc := 7) C dX2_takeBest_7 ?_
  refine ax_ian (pc := 8) C dX2_takeBest_8 rfl (by omega) (by omega) ?_
  refine ax_istore_2 (pc := 9) C dX2_takeBest_9 rfl ?_
  refine ax_iconst (pc := 10) (v := 0) C dX2_takeBest_10 (by decide) ?_
  refine ax_istore_3 (pc := 11) C dX2_takeBest_11 rfl ?_
  refine ax_ldc (pc := 12) C dX2_takeBest_12 qX2_33 ?_
  refine ax_istore_4 (pc := 14) C dX2_takeBest_14 rfl ?_
  refine ax_iconst (pc := 16) (v := 0) C dX2_takeBest_16 (by decide) ?_
  refine ax_istore_5 (pc := 17) C dX2_takeBest_17 rfl ?_
  exact loop 13 0 none (by omega) (by omega)

set_option maxRecDepth 20000 in
set_option maxHeartbeats 4000000 in
theorem w_X2_dayWithBest {Y : ax_Y} {ad : Nat → Nat} (F : ax_F Y) {l : Launch} {σ : ax_Z} {n : Nat} (hn : σ 14 10 = nI n) (h7 : n ≤ 7) (ht : σ 14 9 = 0 ∨ σ 14 9 = 1) {c : Nat} (hc : c < 7) : ax_m Y ad l iX2_dayWithBest 5 σ [.ref (ad 28), .ref (ad 14), .int (nI c)] (some (.ref (ad 29))) (hp_dy (tb_S (hp_bc σ 29 14) n c) 29 n) := by
  have e10 : hp_bc σ 29 14 29 10 = nI n := by rw [← hn]; unfold hp_bc; rw [up_o (by decide), up_s]
  refine ax_m.of F kX2_dayWithBest.1 [some (.ref (ad 28)), some (.ref (ad 14)), some (.int (nI c))] rfl (Nat.le_of_ble_eq_true rfl) (fun x C => ?_)
  refine ax_aload_0 (pc := 0) C dX2_dayWithBest_0 ?_
  refine ax_getR (pc := 1) C fX2_12 dX2_dayWithBest_1 rfl rfl ?_
  refine ax_aload_1 (pc := 4) C dX2_dayWithBest_4 ?_
  refine ax_callVv (pc := 5) C (w_X3_become F ax_day ax_now (by decide) ht) kX3_become mX2_18 dX2_dayWithBest_5 (by decide) rfl rfl rfl rfl rfl (Nat.le_of_ble_eq_true rfl) rfl ⟨Nat.le_refl _, Nat.le_refl _⟩ ?_
  refine ax_aload_0 (pc := 8) C dX2_dayWithBest_8 ?_
  refine ax_iload_2 (pc := 9) C dX2_dayWithBest_9 ?_
  refine ax_callVi (pc := 10) C (w_X2_takeBest F (n := n) e10 h7 hc) kX2_takeBest mX2_25 dX2_dayWithBest_10 (by decide) rfl rfl rfl rfl rfl (Nat.le_of_ble_eq_true rfl) rfl ⟨Nat.le_refl _, Nat.le_refl _⟩ ?_
  refine ax_pop (pc := 13) C dX2_dayWithBest_13 rfl ?_
  refine ax_aload_0 (pc := 14) C dX2_dayWithBest_14 ?_
  refine ax_getR (pc := 15) C fX2_12 dX2_dayWithBest_15 rfl rfl ?_
  refine ax_callVv (pc := 18) C (w_X3_runDay F ax_day (n := n) (by rw [tb_S_o (by decide)]; exact e10) h7) kX3_runDay mX2_22 dX2_dayWithBest_18 (by decide) rfl rfl rfl rfl rfl (Nat.le_of_ble_eq_true rfl) rfl ⟨Nat.le_refl _, Nat.le_refl _⟩ ?_
  refine ax_aload_0 (pc := 21) C dX2_dayWithBest_21 ?_
  refine ax_getR (pc := 22) C fX2_12 dX2_dayWithBest_22 rfl rfl ?_
  exact ax_ar (pc := 25) C rfl dX2_dayWithBest_25 rfl

set_option maxRecDepth 20000 in
set_option maxHeartbeats 4000000 in
theorem w_X2_roundsToRest {Y : ax_Y} {ad : Nat → Nat} (F : ax_F Y) {l : Launch} {σ : ax_Z} {n : Nat} (hn : σ 14 10 = nI n) (h7 : n ≤ 7) (ht : σ 14 9 = 0 ∨ σ 14 9 = 1) : ax_m Y ad l iX2_roundsToRest 5 σ [.ref (ad 28), .ref (ad 14)] (some (.int (rr_R ((hp_bc σ 29 14) 33) (hp_K (hp_bc σ 29 14) 29 n) 20 0))) (rr_S (hp_bc σ 29 14) n (rr_E ((hp_bc σ 29 14) 33) (hp_K (hp_bc σ 29 14) 29 n) 20 0)) := by
  have e10 : hp_bc σ 29 14 29 10 = nI n := by rw [← hn]; unfold hp_bc; rw [up_o (by decide), up_s]
  refine ax_m.of F kX2_roundsToRest.1 [some (.ref (ad 28)), some (.ref (ad 14)), none, none, none] rfl (Nat.le_of_ble_eq_true rfl) (fun x C => ?_)
  have outer : ∀ (q : Nat) (r q0 : Nat) (z3 z4 : Option Value), r + q0 = 20 → rr_R ((hp_bc σ 29 14) 33) (hp_K (hp_bc σ 29 14) 29 n) q0 r = rr_R ((hp_bc σ 29 14) 33) (hp_K (hp_bc σ 29 14) 29 n) 20 0 → rr_E ((hp_bc σ 29 14) 33) (hp_K (hp_bc σ 29 14) 29 n) q0 r = rr_E ((hp_bc σ 29 14) 33) (hp_K (hp_bc σ 29 14) 29 n) 20 0 → q0 < q → ax_S x Y ad 0 0 (ax_Q x Y ad (some (.int (rr_R ((hp_bc σ 29 14) 33) (hp_K (hp_bc σ 29 14) 29 n) 20 0))) 96 (ax_g Y ad (rr_S (hp_bc σ 29 14) n (rr_E ((hp_bc σ 29 14) 33) (hp_K (hp_bc σ 29 14) 29 n) 20 0))) 0 0) (rr_S (hp_bc σ 29 14) n r) 10 [some (.ref (ad 28)), some (.ref (ad 14)), some (.int (nI (r + 1))), z3, z4] [] := by
    intro q
    induction q with
    | zero => intro r q0 z3 z4 hrq hR hE hq; exfalso; omega
    | succ q ih =>
      intro r q0 z3 z4 hrq hR hE hq
      refine ax_iload_2 (pc := 10) C dX2_roundsToRest_10 ?_
      refine ax_bipush (pc := 11) (v := 20) C dX2_roundsToRest_11 (by decide) ?_
      refine ax_icmp_gt (pc := 13) (tgt := 62) C dX2_roundsToRest_13 (by decide) (fun h13 => ?_) (fun h13 => ?_)
      · have hr : ¬ r < 20 := fun z => nI_nlt (a := 20) (b := r + 1) (by omega) (by decide) h13
        refine ax_ldc (pc := 62) C dX2_roundsToRest_62 qX2_42 ?_
        exact ax_ir (pc := 64) C rfl dX2_roundsToRest_64 (by rw [← hR, show q0 = 0 by omega]; rfl) (by rw [← hE, show q0 = 0 by omega]; rfl)
      · have hr : r < 20 := Nat.lt_of_not_le (fun z => h13 (nI_lt (a := 20) (b := r + 1) (by omega) (by omega)))
        obtain ⟨q1, rfl⟩ : ∃ q1, q0 = q1 + 1 := ⟨q0 - 1, by omega⟩
        refine ax_iconst (pc := 16) (v := 0) C dX2_roundsToRest_16 (by decide) ?_
        refine ax_istore_3 (pc := 17) C dX2_roundsToRest_17 rfl ?_
        have cont : ax_S x Y ad 0 0 (ax_Q x Y ad (some (.int (rr_R ((hp_bc σ 29 14) 33) (hp_K (hp_bc σ 29 14) 29 n) 20 0))) 96 (ax_g Y ad (rr_S (hp_bc σ 29 14) n (rr_E ((hp_bc σ 29 14) 33) (hp_K (hp_bc σ 29 14) 29 n) 20 0))) 0 0) (rr_S (hp_bc σ 29 14) n (r + 1)) 50 [some (.ref (ad 28)), some (.ref (ad 14)), some (.int (nI (r + 1))), some (.int (ax_b (rd_F ((hp_bc σ 29 14) 33) (rr_K ((hp_bc σ 29 14) 33) (hp_K (hp_bc σ 29 14) 29 n) r) n = true))), some (.int (nI n))] [] := by
          have hx : rr_K ((hp_bc σ 29 14) 33) (hp_K (hp_bc σ 29 14) 29 n) r = rr_K ((hp_bc σ 29 14) 33) (hp_K (hp_bc σ 29 14) 29 n) r := rfl
          refine ax_iload_3 (pc := 50) C dX2_roundsToRest_50 ?_
          refine ax_if_ne (pc := 51) (tgt := 56) C dX2_roundsToRest_51 (by decide) (fun h51 => ?_) (fun h51 => ?_)
          · have h51 := ax_bne h51
            refine ax_iinc_2 (pc := 56) C dX2_roundsToRest_56 (1) (by decide) rfl ?_
            refine ax_goto (pc := 59) (tgt := 10) C dX2_roundsToRest_59 (by decide) ?_
            rw [rr_R, if_pos h51] at hR
            rw [rr_E, if_pos h51] at hE
            refine ax_SLeq rfl ?_ (ih (r + 1) q1 (some (.int (ax_b (rd_F ((hp_bc σ 29 14) 33) (rr_K ((hp_bc σ 29 14) 33) (hp_K (hp_bc σ 29 14) 29 n) r) n = true)))) (some (.int (nI n))) (by omega) hR hE (by omega))
            rw [nI_1]
          · have h51 := h51
            refine ax_iload_2 (pc := 54) C dX2_roundsToRest_54 ?_
            exact ax_ir (pc := 55) C rfl dX2_roundsToRest_55 (by rw [← hR, rr_R, if_neg (ax_beq h51)]) (by rw [← hE, rr_E, if_neg (ax_beq h51)])
        have loop : ∀ (q : Nat) (c : Nat), c ≤ n → n < c + q → ax_S x Y ad 0 0 (ax_Q x Y ad (some (.int (rr_R ((hp_bc σ 29 14) 33) (hp_K (hp_bc σ 29 14) 29 n) 20 0))) 96 (ax_g Y ad (rr_S (hp_bc σ 29 14) n (rr_E ((hp_bc σ 29 14) 33) (hp_K (hp_bc σ 29 14) 29 n) 20 0))) 0 0) (rd_S (rr_S (hp_bc σ 29 14) n r) n c) 21 [some (.ref (ad 28)), some (.ref (ad 14)), some (.int (nI (r + 1))), some (.int (ax_b (rd_F ((hp_bc σ 29 14) 33) (rr_K ((hp_bc σ 29 14) 33) (hp_K (hp_bc σ 29 14) 29 n) r) c = true))), some (.int (nI c))] [] := by
          intro q
          induction q with
          | zero => intro c h1 h2; exfalso; omega
          | succ q ih =>
            intro c h1 h2
            have ei : rd_S (rr_S (hp_bc σ 29 14) n r) n c 29 10 = nI n := by rw [rd_S_o (by decide), rr_S_o (by decide)]; exact e10
            have fK : hp_K (rd_S (rr_S (hp_bc σ 29 14) n r) n c) 29 n = rd_K ((hp_bc σ 29 14) 33) (rr_K ((hp_bc σ 29 14) 33) (hp_K (hp_bc σ 29 14) 29 n) r) c := by rw [rd_S_K, rr_S_K, rr_S_h]
            have fH : rd_S (rr_S (hp_bc σ 29 14) n r) n c 33 = ((hp_bc σ 29 14) 33) := by rw [rd_S_h, rr_S_h]
            refine ax_iload_4 (pc := 21) C dX2_roundsToRest_21 ?_
            refine ax_aload_0 (pc := 23) C dX2_roundsToRest_23 ?_
            refine ax_getR (pc := 24) C fX2_12 dX2_roundsToRest_24 rfl rfl ?_
            refine ax_getI (pc := 27) C fX2_38 dX2_roundsToRest_27 rfl rfl ?_
            refine ax_icmp_ge (pc := 30) (tgt := 50) C dX2_roundsToRest_30 (by decide) (fun h30 => ?_) (fun h30 => ?_)
            · have hcn : ¬ c < n := fun q => nI_ge q (by omega) (by rw [← ei]; exact h30)
              have hcn2 : c = n := by omega
              subst hcn2
              exact cont
            · have hcn : c < n := Nat.lt_of_not_le (fun q => h30 (by rw [ei]; exact nI_le q (by omega)))
              refine ax_aload_0 (pc := 33) C dX2_roundsToRest_33 ?_
              refine ax_iload_4 (pc := 34) C dX2_roundsToRest_34 ?_
              refine ax_callVi (pc := 36) C (w_X2_takeBest F (n := n) (by rw [rd_S_o (by decide), rr_S_o (by decide)]; exact e10) h7 (by omega)) kX2_takeBest mX2_25 dX2_roundsToRest_36 (by decide) rfl rfl rfl rfl rfl (Nat.le_of_ble_eq_true rfl) rfl ⟨Nat.le_refl _, Nat.le_refl _⟩ ?_
              refine ax_if_eq (pc := 39) (tgt := 44) C dX2_roundsToRest_39 (by decide) (fun h39 => ?_) (fun h39 => ?_)
              · have h39 := ax_beq h39
                refine ax_iinc_4 (pc := 44) C dX2_roundsToRest_44 (1) (by decide) rfl ?_
                refine ax_goto (pc := 47) (tgt := 21) C dX2_roundsToRest_47 (by decide) ?_
                refine ax_SLeq rfl ?_ (ih (c + 1) (by omega) (by omega))
                rw [show rd_F ((hp_bc σ 29 14) 33) (rr_K ((hp_bc σ 29 14) 33) (hp_K (hp_bc σ 29 14) 29 n) r) (c + 1) = rd_F ((hp_bc σ 29 14) 33) (rr_K ((hp_bc σ 29 14) 33) (hp_K (hp_bc σ 29 14) 29 n) r) c from by rw [rd_F, ← fK, ← fH]; simp only [h39, decide_false, Bool.or_false], nI_1]
              · have h39 := ax_bne h39
                refine ax_iconst (pc := 42) (v := 1) C dX2_roundsToRest_42 (by decide) ?_
                refine ax_istore_3 (pc := 43) C dX2_roundsToRest_43 rfl ?_
                refine ax_iinc_4 (pc := 44) C dX2_roundsToRest_44 (1) (by decide) rfl ?_
                refine ax_goto (pc := 47) (tgt := 21) C dX2_roundsToRest_47 (by decide) ?_
                refine ax_SLeq rfl ?_ (ih (c + 1) (by omega) (by omega))
                rw [show rd_F _ _ (c + 1) = true from by rw [rd_F]; simp only [Bool.or_eq_true, decide_eq_true_eq]; right; rw [← fK, ← fH]; exact h39, nI_1]
                rfl
        refine ax_iconst (pc := 18) (v := 0) C dX2_roundsToRest_18 (by decide) ?_
        refine ax_istore_4 (pc := 19) C dX2_roundsToRest_19 rfl ?_
        exact loop (n + 1) 0 (by omega) (by omega)
  refine ax_aload_0 (pc := 0) C dX2_roundsToRest_0 ?_
  refine ax_getR (pc := 1) C fX2_12 dX2_roundsToRest_1 rfl rfl ?_
  refine ax_aload_1 (pc := 4) C dX2_roundsToRest_4 ?_
  refine ax_callVv (pc := 5) C (w_X3_become F ax_day ax_now (by decide) ht) kX3_become mX2_18 dX2_roundsToRest_5 (by decide) rfl rfl rfl rfl rfl (Nat.le_of_ble_eq_true rfl) rfl ⟨Nat.le_refl _, Nat.le_refl _⟩ ?_
  refine ax_iconst (pc := 8) (v := 1) C dX2_roundsToRest_8 (by decide) ?_
  refine ax_istore_2 (pc := 9) C dX2_roundsToRest_9 rfl ?_
  exact outer 21 0 20 none none (by omega) rfl rfl (by omega)
