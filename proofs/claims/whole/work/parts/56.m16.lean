/-- the reference's reader: z = (the token looked at, the fault) -/
def mr (σ : ax_Z) (b : Nat → Int32) (N : Nat) (z : Nat × Nat) : ax_Z := ax_up (ax_up (mx_st σ (tkS b N (EE b N z.1)) (EE b N (z.1 + 1)) (tkK b N (EE b N z.1))) 77 18 (nI z.2)) 77 19 (if z.2 = 0 then σ 77 19 else nI (tkS b N (EE b N z.1)))
section MR
variable {σ : ax_Z} {b : Nat → Int32} {N : Nat} {z : Nat × Nat}
theorem mr_13 : mr σ b N z 77 13 = σ 77 13 := by
  unfold mr mx_st
  simp (disch := decide) only [up_o]
theorem mr_14 : mr σ b N z 77 14 = nI (EE b N (z.1 + 1)) := by
  unfold mr mx_st
  simp (disch := decide) only [up_o, up_s]
theorem mr_15 : mr σ b N z 77 15 = nI (mx_k (tkK b N (EE b N z.1))) := by
  unfold mr mx_st
  simp (disch := decide) only [up_o, up_s]
theorem mr_16 : mr σ b N z 77 16 = nI (tkS b N (EE b N z.1)) := by
  unfold mr mx_st
  simp (disch := decide) only [up_o, up_s]
theorem mr_17 : mr σ b N z 77 17 = nI (EE b N (z.1 + 1)) := by
  unfold mr mx_st
  simp (disch := decide) only [up_o, up_s]
theorem mr_18 : mr σ b N z 77 18 = nI z.2 := by
  unfold mr mx_st
  simp (disch := decide) only [up_o, up_s]
theorem mr_ne {k : Nat} (h : k ≠ 77) : mr σ b N z k = σ k := by
  unfold mr mx_st
  simp (disch := omega) only [up_ne]
theorem mr_up {k j : Nat} {v : Int32} (h : k ≠ 77) : ax_up (mr σ b N z) k j v = mr (ax_up σ k j v) b N z := by
  funext x y
  by_cases hx : x = k
  · subst hx
    rw [mr_ne h]
    simp only [ax_up, mr_ne h]
  · rw [up_ne hx]
    by_cases h7 : x = 77
    · subst h7
      unfold mr mx_st
      simp only [ax_up, hx, false_and, if_false]
    · rw [mr_ne h7, mr_ne h7, up_ne hx]
theorem mr_next (h0 : z.2 = 0) : mx_st (mr σ b N z) (tkS b N (EE b N (z.1 + 1))) (tkE b N (EE b N (z.1 + 1))) (tkK b N (EE b N (z.1 + 1))) = mr σ b N (z.1 + 1, 0) := by
  funext x y
  by_cases h7 : x = 77
  · subst h7
    show mx_st (mr σ b N z) _ (EE b N (z.1 + 1 + 1)) _ 77 y = _
    unfold mr mx_st
    simp only [ax_up, h0, true_and, if_true]
    by_cases h14 : y = 14
    · simp [h14]
    by_cases h15 : y = 15
    · simp [h15]
    by_cases h16 : y = 16
    · simp [h16]
    by_cases h17 : y = 17
    · simp [h17]
    by_cases h18 : y = 18
    · simp [h18]
    by_cases h19 : y = 19
    · simp [h19]
    simp [h14, h15, h16, h17, h18, h19]
  · rw [mr_ne h7]
    unfold mx_st
    simp (disch := omega) only [up_ne, mr_ne]
def pm_bad (k : Nat) (z : Nat × Nat) : Nat × Nat := if z.2 = 0 then (z.1, k) else z
theorem mr_bad {k : Nat} {v : Int32} (hv : v = nI k) (hk : k ≠ 0) (hz : z.2 < 4) : (if mr σ b N z 77 18 = 0 then ax_up (ax_up (mr σ b N z) 77 18 v) 77 19 (mr σ b N z 77 16) else mr σ b N z) = mr σ b N (pm_bad k z) := by
  rw [mr_18, mr_16, hv]
  by_cases h0 : z.2 = 0
  · rw [if_pos (by rw [h0]; rfl), pm_bad, if_pos h0]
    funext x y
    by_cases h7 : x = 77
    · subst h7
      unfold mr mx_st
      simp only [ax_up, h0, true_and, if_true, if_neg hk]
      by_cases h18 : y = 18
      · simp [h18]
      by_cases h19 : y = 19
      · simp [h19]
      simp [h18, h19]
    · rw [up_ne h7, up_ne h7, mr_ne h7, mr_ne h7]
  · rw [if_neg (nI_ne0 (by omega) (by omega)), pm_bad, if_neg h0]
theorem pm_bad_lt {k : Nat} (hz : z.2 < 4) (hk : k < 4) : (pm_bad k z).2 < 4 := by
  unfold pm_bad
  split
  · exact hk
  · exact hz
theorem pm_bad_ne {k : Nat} (hk : k ≠ 0) : ¬ (pm_bad k z).2 = 0 := by
  unfold pm_bad
  split
  · exact hk
  · next h => exact h
def pm_must (so : Bool) (z : Nat × Nat) : Nat × Nat := if z.2 = 0 then (if so = true then (z.1 + 1, 0) else (z.1, 1)) else z
theorem pm_must_f {so : Bool} (h : ¬ so = true) : pm_must so z = pm_bad 1 z := by
  unfold pm_must pm_bad
  rw [if_neg h]
theorem pm_must_n {so : Bool} (h : ¬ z.2 = 0) : pm_must so z = z := if_neg h
theorem pm_must_t {so : Bool} (h0 : z.2 = 0) (h : so = true) : pm_must so z = (z.1 + 1, 0) := by rw [pm_must, if_pos h0, if_pos h]
theorem pm_must_lt {so : Bool} (hz : z.2 < 4) : (pm_must so z).2 < 4 := by
  unfold pm_must
  split
  · split
    · exact Nat.zero_lt_succ 3
    · exact (show 1 < 4 by decide)
  · exact hz
theorem mx_k2 {k : Nat} (h : k < 5) : mx_k k = 2 ↔ k = 1 := by
  unfold mx_k
  split <;> omega
theorem mx_k3 {k : Nat} (h : k < 5) : mx_k k = 3 ↔ k = 2 := by
  unfold mx_k
  split <;> omega
theorem mx_k4 {k : Nat} (h : k < 5) : mx_k k = 4 ↔ k = 3 := by
  unfold mx_k
  split <;> omega
theorem mx_k1 {k : Nat} (h : k < 5) : mx_k k = 1 ↔ k = 0 := by
  unfold mx_k
  split <;> omega
theorem mx_lt {k : Nat} (h : k < 5) : mx_k k < 2 ^ 31 := by
  unfold mx_k
  split <;> omega
/-- the sort of token i -/
abbrev tK (b : Nat → Int32) (N i : Nat) : Nat := tkK b N (EE b N i)
abbrev tS (b : Nat → Int32) (N i : Nat) : Nat := tkS b N (EE b N i)
theorem mr_K2 : mr σ b N z 77 15 = 2 ↔ tK b N z.1 = 1 := by
  rw [mr_15, show (2 : Int32) = nI 2 from rfl, nI_eq (mx_lt tkK_lt) (by decide), mx_k2 tkK_lt]
theorem mr_K3 : mr σ b N z 77 15 = 3 ↔ tK b N z.1 = 2 := by
  rw [mr_15, show (3 : Int32) = nI 3 from rfl, nI_eq (mx_lt tkK_lt) (by decide), mx_k3 tkK_lt]
theorem mr_K4 : mr σ b N z 77 15 = 4 ↔ tK b N z.1 = 3 := by
  rw [mr_15, show (4 : Int32) = nI 4 from rfl, nI_eq (mx_lt tkK_lt) (by decide), mx_k4 tkK_lt]
theorem mr_K1 : mr σ b N z 77 15 = 1 ↔ tK b N z.1 = 0 := by
  rw [mr_15, show (1 : Int32) = nI 1 from rfl, nI_eq (mx_lt tkK_lt) (by decide), mx_k1 tkK_lt]
def pm_v (b : Nat → Int32) (N i : Nat) : Int32 := mv_f b (tS b N i) (EE b N (i + 1) - tS b N i)
def pm_w (b : Nat → Int32) (N i : Nat) : Int32 := if tK b N i = 2 then pm_v b N i else 0
def pm_val (b : Nat → Int32) (N : Nat) (z : Nat × Nat) : Int32 := if z.2 = 0 then pm_w b N z.1 else 0
def pm_num (b : Nat → Int32) (N : Nat) (most : Int32) (z : Nat × Nat) : Nat × Nat := if z.2 = 0 then (if tK b N z.1 = 2 then (if 0 ≤ pm_v b N z.1 ∧ pm_v b N z.1 ≤ most then (z.1 + 1, 0) else (z.1, 2)) else (z.1, 1)) else z
theorem pm_num_n {most : Int32} (h : ¬ z.2 = 0) : pm_num b N most z = z := if_neg h
theorem pm_num_1 {most : Int32} (h0 : z.2 = 0) (h : ¬ tK b N z.1 = 2) : pm_num b N most z = pm_must (decide (tK b N z.1 = 2)) z := by
  rw [pm_num, if_pos h0, if_neg h, pm_must_f (by simp [h]), pm_bad, if_pos h0]
theorem pm_num_2 {most : Int32} (h0 : z.2 = 0) (h : tK b N z.1 = 2) (h1 : 0 ≤ pm_v b N z.1 ∧ pm_v b N z.1 ≤ most) : pm_num b N most z = pm_must (decide (tK b N z.1 = 2)) z := by
  rw [pm_num, if_pos h0, if_pos h, if_pos h1, pm_must_t h0 (decide_eq_true h)]
theorem pm_num_3 {most : Int32} {so : Bool} (h0 : z.2 = 0) (h : tK b N z.1 = 2) (h1 : ¬ (0 ≤ pm_v b N z.1 ∧ pm_v b N z.1 ≤ most)) : pm_num b N most z = pm_must so (pm_bad 2 z) := by
  rw [pm_num, if_pos h0, if_pos h, if_neg h1, pm_must_n (pm_bad_ne (by decide)), pm_bad, if_pos h0]
theorem pm_num_lt {most : Int32} (hz : z.2 < 4) : (pm_num b N most z).2 < 4 := by
  unfold pm_num
  split
  · split
    · split
      · exact (show 0 < 4 by decide)
      · exact (show 2 < 4 by decide)
    · exact (show 1 < 4 by decide)
  · exact hz
theorem mr_w : (if mr σ b N z 77 15 = 3 then mv_f (mr σ b N z 84) (tS b N z.1) (EE b N (z.1 + 1) - tS b N z.1) else 0) = if tK b N z.1 = 2 then mv_f (σ 84) (tS b N z.1) (EE b N (z.1 + 1) - tS b N z.1) else 0 := by
  rw [mr_ne (show (84 : Nat) ≠ 77 by decide)]
  by_cases h : tK b N z.1 = 2
  · rw [if_pos h, if_pos (mr_K3.mpr h)]
  · rw [if_neg h, if_neg (fun q => h (mr_K3.mp q))]
def pm_end (b : Nat → Int32) (N : Nat) (z : Nat × Nat) : Nat × Nat := pm_must (decide (tK b N z.1 = 3)) z
def pm_n (b : Nat → Int32) (N : Nat) (z : Nat × Nat) : Int64 := if z.2 = 0 then (if tK b N z.1 = 1 ∧ EE b N (z.1 + 1) - tS b N z.1 < 8 then mn_v b (tS b N z.1) (EE b N (z.1 + 1) - tS b N z.1) else 0) else 0
theorem mr_n (hz : z.2 < 4) (hb : σ 84 = b) : (if mr σ b N z 77 18 = 0 then (if mr σ b N z 77 15 = 2 ∧ EE b N (z.1 + 1) - tS b N z.1 < 8 then mn_v (mr σ b N z 84) (tS b N z.1) (EE b N (z.1 + 1) - tS b N z.1) else 0) else 0) = pm_n b N z := by
  rw [mr_ne (show (84 : Nat) ≠ 77 by decide), mr_18, hb, pm_n]
  by_cases h0 : z.2 = 0
  · rw [if_pos h0, if_pos (by rw [h0]; rfl)]
    by_cases h : tK b N z.1 = 1
    · simp only [mr_K2.mpr h, h]
    · rw [if_neg (fun q => h (mr_K2.mp q.1)), if_neg (fun q => h q.1)]
  · rw [if_neg h0, if_neg (nI_ne0 (by omega) (by omega))]
/-- the tolls -/
def pm_tz (b : Nat → Int32) (N : Nat) (z : Nat × Nat) : Nat → Nat × Nat
  | 0 => z
  | n + 1 => pm_num b N 99 (pm_tz b N z n)
def pm_tf (σ : ax_Z) (b : Nat → Int32) (N : Nat) (z : Nat × Nat) : Nat → ax_Z
  | 0 => σ
  | n + 1 => ax_up (pm_tf σ b N z n) 82 (2 + n) (pm_val b N (pm_tz b N z n))
theorem pm_tz_lt (hz : z.2 < 4) (n : Nat) : (pm_tz b N z n).2 < 4 := by
  induction n with
  | zero => exact hz
  | succ n ih => exact pm_num_lt ih
theorem pm_tf_ne {n k : Nat} (h : k ≠ 82) : pm_tf σ b N z n k = σ k := by
  induction n with
  | zero => rfl
  | succ n ih => rw [pm_tf, up_ne h, ih]
theorem pm_tf_at {n k j : Nat} (h : k ≠ 82) : pm_tf σ b N z n k j = σ k j := by rw [pm_tf_ne h]
end MR
section AXL
variable {x : ax_T} {Y : ax_Y} {ad : Nat → Nat} {i : ax_I} {h mc ms kc ks pc : Nat} {Q : State → Prop} {σ : ax_Z} {L : List (Option Value)} {st : List Value}
theorem ax_lval (C : ax_C x Y i h mc ms) {a b : Int64} (e : a = b) (kk : ax_S x Y ad kc ks Q σ pc L (.long b :: st)) : ax_S x Y ad kc ks Q σ pc L (.long a :: st) := by
  subst e
  exact kk
end AXL

set_option maxRecDepth 20000 in
set_option maxHeartbeats 4000000 in
theorem w_X7_must {Y : ax_Y} {ad : Nat → Nat} (F : ax_F Y) {l : Launch} {σ : ax_Z} {b : Nat → Int32} {N : Nat} (hN : σ 77 13 = nI N) (h400 : N ≤ 400) (hb : σ 84 = b) (hb0 : ∀ i, i < N → b i ≠ -1000000) {z : Nat × Nat} (hz : z.2 < 4) (so : Bool) : ax_m Y ad l iX7_must 2 (mr σ b N z) [.ref (ad 77), .int (ax_b (so = true))] none (mr σ b N (pm_must so z)) := by
  refine ax_m.of F kX7_must.1 [some (.ref (ad 77)), some (.int (ax_b (so = true)))] rfl (Nat.le_of_ble_eq_true rfl) (fun x C => ?_)
  refine ax_iload_1 (pc := 0) C dX7_must_0 ?_
  refine ax_if_ne (pc := 1) (tgt := 9) C dX7_must_1 (by decide) (fun h1 => ?_) (fun h1 => ?_)
  · have h1 := ax_bne h1
    refine ax_aload_0 (pc := 9) C dX7_must_9 ?_
    refine ax_getI (pc := 10) C fX7_123 dX7_must_10 rfl rfl ?_
    refine ax_val C mr_18 ?_
    refine ax_if_ne (pc := 13) (tgt := 20) C dX7_must_13 (by decide) (fun h13 => ?_) (fun h13 => ?_)
    · exact ax_vr (pc := 20) C rfl dX7_must_20 (by rw [pm_must_n (fun q => h13 (by rw [q]; rfl))])
    · refine ax_aload_0 (pc := 16) C dX7_must_16 ?_
      refine ax_callVv (pc := 17) C (w_X7_next F (mr_13.trans hN) h400 ((mr_ne (by decide)).trans hb) hb0 mr_14 (EE_le _)) kX7_next mX7_126 dX7_must_17 (by decide) rfl rfl rfl rfl rfl (Nat.le_of_ble_eq_true rfl) rfl ⟨Nat.le_refl _, Nat.le_refl _⟩ ?_
      exact ax_vr (pc := 20) C rfl dX7_must_20 (by rw [pm_must_t ((nI_eq (b := 0) (by omega) (by decide)).mp h13) h1]; exact (mr_next ((nI_eq (b := 0) (by omega) (by decide)).mp h13)).symm)
  · have h1 := ax_beq h1
    refine ax_aload_0 (pc := 4) C dX7_must_4 ?_
    refine ax_iconst (pc := 5) (v := 1) C dX7_must_5 (by decide) ?_
    refine ax_callVv (pc := 6) C (w_X7_bad F) kX7_bad mX7_132 dX7_must_6 (by decide) rfl rfl rfl rfl rfl (Nat.le_of_ble_eq_true rfl) rfl ⟨Nat.le_refl _, Nat.le_refl _⟩ ?_
    refine ax_Seq (mr_bad (k := 1) rfl (by decide) hz) ?_
    refine ax_aload_0 (pc := 9) C dX7_must_9 ?_
    refine ax_getI (pc := 10) C fX7_123 dX7_must_10 rfl rfl ?_
    refine ax_val C mr_18 ?_
    refine ax_if_ne (pc := 13) (tgt := 20) C dX7_must_13 (by decide) (fun h13 => ?_) (fun h13 => ?_)
    · exact ax_vr (pc := 20) C rfl dX7_must_20 (by rw [pm_must_f h1])
    · refine ax_aload_0 (pc := 16) C dX7_must_16 ?_
      refine ax_callVv (pc := 17) C (w_X7_next F (mr_13.trans hN) h400 ((mr_ne (by decide)).trans hb) hb0 mr_14 (EE_le _)) kX7_next mX7_126 dX7_must_17 (by decide) rfl rfl rfl rfl rfl (Nat.le_of_ble_eq_true rfl) rfl ⟨Nat.le_refl _, Nat.le_refl _⟩ ?_
      exact ax_vr (pc := 20) C rfl dX7_must_20 (absurd ((nI_eq (b := 0) (Nat.lt_trans (pm_bad_lt hz (by decide)) (by decide)) (by decide)).mp h13) (pm_bad_ne (by decide)))

set_option maxRecDepth 20000 in
set_option maxHeartbeats 4000000 in
theorem w_X7_number {Y : ax_Y} {ad : Nat → Nat} (F : ax_F Y) {l : Launch} {σ : ax_Z} {b : Nat → Int32} {N : Nat} (hN : σ 77 13 = nI N) (h400 : N ≤ 400) (hb : σ 84 = b) (hb0 : ∀ i, i < N → b i ≠ -1000000) {z : Nat × Nat} (hz : z.2 < 4) (most : Int32) : ax_m Y ad l iX7_number 3 (mr σ b N z) [.ref (ad 77), .int 0, .int most] (some (.int (pm_val b N z))) (mr σ b N (pm_num b N most z)) := by
  refine ax_m.of F kX7_number.1 [some (.ref (ad 77)), some (.int (0)), some (.int (most)), none] rfl (Nat.le_of_ble_eq_true rfl) (fun x C => ?_)
  refine ax_aload_0 (pc := 0) C dX7_number_0 ?_
  refine ax_getI (pc := 1) C fX7_123 dX7_number_1 rfl rfl ?_
  refine ax_val C mr_18 ?_
  refine ax_if_le (pc := 4) (tgt := 9) C dX7_number_4 (by decide) (fun h4 => ?_) (fun h4 => ?_)
  · have h0 : z.2 = 0 := Nat.eq_zero_of_not_pos (fun q => nI_nle q (by omega) h4)
    refine ax_aload_0 (pc := 9) C dX7_number_9 ?_
    refine ax_callVi (pc := 10) C (w_X7_figures F mr_16 mr_17 (tkE_le (EE_le _)).1 (Nat.le_trans (EE_le _) h400)) kX7_figures mX7_136 dX7_number_10 (by decide) rfl rfl rfl rfl rfl (Nat.le_of_ble_eq_true rfl) rfl ⟨Nat.le_refl _, Nat.le_refl _⟩ ?_
    refine ax_val C (show _ = (pm_w b N z.1) by rw [mr_w, hb]; rfl) ?_
    refine ax_istore_3 (pc := 13) C dX7_number_13 rfl ?_
    refine ax_aload_0 (pc := 14) C dX7_number_14 ?_
    refine ax_getI (pc := 15) C fX7_111 dX7_number_15 rfl rfl ?_
    refine ax_iconst (pc := 18) (v := 3) C dX7_number_18 (by decide) ?_
    refine ax_icmp_ne (pc := 19) (tgt := 39) C dX7_number_19 (by decide) (fun h19 => ?_) (fun h19 => ?_)
    · have h19 : ¬ tK b N z.1 = 2 := fun q => h19 (mr_K3.mpr q)
      refine ax_aload_0 (pc := 39) C dX7_number_39 ?_
      refine ax_aload_0 (pc := 40) C dX7_number_40 ?_
      refine ax_getI (pc := 41) C fX7_111 dX7_number_41 rfl rfl ?_
      refine ax_iconst (pc := 44) (v := 3) C dX7_number_44 (by decide) ?_
      refine ax_icmp_ne (pc := 45) (tgt := 52) C dX7_number_45 (by decide) (fun h45 => ?_) (fun h45 => ?_)
      · have h45 : ¬ tK b N z.1 = 2 := fun q => h45 (by first | exact mr_K3.mpr q | (refine mr_K3.mpr ?_; rw [pm_bad, if_pos h0]; exact q))
        refine ax_iconst (pc := 52) (v := 0) C dX7_number_52 (by decide) ?_
        refine ax_val C (show (0 : Int32) = ax_b ((decide (tK b N z.1 = 2)) = true) from (ax_b0 (fun q => h45 (of_decide_eq_true q))).symm) ?_
        refine ax_callVv (pc := 53) C (w_X7_must F hN h400 hb hb0 (by first | exact hz | exact pm_bad_lt hz (by decide)) (decide (tK b N z.1 = 2))) kX7_must mX7_140 dX7_number_53 (by decide) rfl rfl rfl rfl rfl (Nat.le_of_ble_eq_true rfl) rfl ⟨Nat.le_refl _, Nat.le_refl _⟩ ?_
        refine ax_iload_3 (pc := 56) C dX7_number_56 ?_
        exact ax_ir (pc := 57) C rfl dX7_number_57 (by rw [pm_val, if_pos h0]) (by rw [pm_num_1 h0 h19])
      · have h45 : tK b N z.1 = 2 := by first | exact mr_K3.mp h45 | (have q := mr_K3.mp h45; rw [pm_bad, if_pos h0] at q; exact q)
        refine ax_iconst (pc := 48) (v := 1) C dX7_number_48 (by decide) ?_
        refine ax_val C (show (1 : Int32) = ax_b ((decide (tK b N z.1 = 2)) = true) from (ax_b1 (decide_eq_true h45)).symm) ?_
        refine ax_goto (pc := 49) (tgt := 53) C dX7_number_49 (by decide) ?_
        refine ax_callVv (pc := 53) C (w_X7_must F hN h400 hb hb0 (by first | exact hz | exact pm_bad_lt hz (by decide)) (decide (tK b N z.1 = 2))) kX7_must mX7_140 dX7_number_53 (by decide) rfl rfl rfl rfl rfl (Nat.le_of_ble_eq_true rfl) rfl ⟨Nat.le_refl _, Nat.le_refl _⟩ ?_
        refine ax_iload_3 (pc := 56) C dX7_number_56 ?_
        exact ax_ir (pc := 57) C rfl dX7_number_57 (by rw [pm_val, if_pos h0]) (by rw [pm_num_1 h0 h19])
    · have h19 : tK b N z.1 = 2 := mr_K3.mp h19
      have hpw : (pm_w b N z.1) = pm_v b N z.1 := if_pos h19
      refine ax_iload_3 (pc := 22) C dX7_number_22 ?_
      refine ax_i2l (pc := 23) C dX7_number_23 ?_
      refine ax_iload_1 (pc := 24) C dX7_number_24 ?_
      refine ax_i2l (pc := 25) C dX7_number_25 ?_
      refine ax_iload_2 (pc := 26) C dX7_number_26 ?_
      refine ax_i2l (pc := 27) C dX7_number_27 ?_
      refine ax_callSi (pc := 28) C (w_X7_in F (lo := 0) (hi := most) rfl rfl) kX7_in mX7_75 dX7_number_28 (by decide) rfl rfl (Nat.le_of_ble_eq_true rfl) rfl ⟨Nat.le_refl _, Nat.le_refl _⟩ ?_
      refine ax_if_ne (pc := 31) (tgt := 39) C dX7_number_31 (by decide) (fun h31 => ?_) (fun h31 => ?_)
      · have h31 := ax_bne h31
        rw [hpw] at h31
        refine ax_aload_0 (pc := 39) C dX7_number_39 ?_
        refine ax_aload_0 (pc := 40) C dX7_number_40 ?_
        refine ax_getI (pc := 41) C fX7_111 dX7_number_41 rfl rfl ?_
        refine ax_iconst (pc := 44) (v := 3) C dX7_number_44 (by decide) ?_
        refine ax_icmp_ne (pc := 45) (tgt := 52) C dX7_number_45 (by decide) (fun h45 => ?_) (fun h45 => ?_)
        · have h45 : ¬ tK b N z.1 = 2 := fun q => h45 (by first | exact mr_K3.mpr q | (refine mr_K3.mpr ?_; rw [pm_bad, if_pos h0]; exact q))
          refine ax_iconst (pc := 52) (v := 0) C dX7_number_52 (by decide) ?_
          refine ax_val C (show (0 : Int32) = ax_b ((decide (tK b N z.1 = 2)) = true) from (ax_b0 (fun q => h45 (of_decide_eq_true q))).symm) ?_
          refine ax_callVv (pc := 53) C (w_X7_must F hN h400 hb hb0 (by first | exact hz | exact pm_bad_lt hz (by decide)) (decide (tK b N z.1 = 2))) kX7_must mX7_140 dX7_number_53 (by decide) rfl rfl rfl rfl rfl (Nat.le_of_ble_eq_true rfl) rfl ⟨Nat.le_refl _, Nat.le_refl _⟩ ?_
          refine ax_iload_3 (pc := 56) C dX7_number_56 ?_
          exact ax_ir (pc := 57) C rfl dX7_number_57 (by rw [pm_val, if_pos h0]) (by rw [pm_num_2 h0 h19 h31])
        · have h45 : tK b N z.1 = 2 := by first | exact mr_K3.mp h45 | (have q := mr_K3.mp h45; rw [pm_bad, if_pos h0] at q; exact q)
          refine ax_iconst (pc := 48) (v := 1) C dX7_number_48 (by decide) ?_
          refine ax_val C (show (1 : Int32) = ax_b ((decide (tK b N z.1 = 2)) = true) from (ax_b1 (decide_eq_true h45)).symm) ?_
          refine ax_goto (pc := 49) (tgt := 53) C dX7_number_49 (by decide) ?_
          refine ax_callVv (pc := 53) C (w_X7_must F hN h400 hb hb0 (by first | exact hz | exact pm_bad_lt hz (by decide)) (decide (tK b N z.1 = 2))) kX7_must mX7_140 dX7_number_53 (by decide) rfl rfl rfl rfl rfl (Nat.le_of_ble_eq_true rfl) rfl ⟨Nat.le_refl _, Nat.le_refl _⟩ ?_
          refine ax_iload_3 (pc := 56) C dX7_number_56 ?_
          exact ax_ir (pc := 57) C rfl dX7_number_57 (by rw [pm_val, if_pos h0]) (by rw [pm_num_2 h0 h19 h31])
      · have h31 := ax_beq h31
        rw [hpw] at h31
        refine ax_aload_0 (pc := 34) C dX7_number_34 ?_
        refine ax_iconst (pc := 35) (v := 2) C dX7_number_35 (by decide) ?_
        refine ax_callVv (pc := 36) C (w_X7_bad F) kX7_bad mX7_132 dX7_number_36 (by decide) rfl rfl rfl rfl rfl (Nat.le_of_ble_eq_true rfl) rfl ⟨Nat.le_refl _, Nat.le_refl _⟩ ?_
        refine ax_Seq (mr_bad (k := 2) rfl (by decide) hz) ?_
        refine ax_aload_0 (pc := 39) C dX7_number_39 ?_
        refine ax_aload_0 (pc := 40) C dX7_number_40 ?_
        refine ax_getI (pc := 41) C fX7_111 dX7_number_41 rfl rfl ?_
        refine ax_iconst (pc := 44) (v := 3) C dX7_number_44 (by decide) ?_
        refine ax_icmp_ne (pc := 45) (tgt := 52) C dX7_number_45 (by decide) (fun h45 => ?_) (fun h45 => ?_)
        · have h45 : ¬ tK b N z.1 = 2 := fun q => h45 (by first | exact mr_K3.mpr q | (refine mr_K3.mpr ?_; rw [pm_bad, if_pos h0]; exact q))
          refine ax_iconst (pc := 52) (v := 0) C dX7_number_52 (by decide) ?_
          refine ax_val C (show (0 : Int32) = ax_b ((decide (tK b N z.1 = 2)) = true) from (ax_b0 (fun q => h45 (of_decide_eq_true q))).symm) ?_
          refine ax_callVv (pc := 53) C (w_X7_must F hN h400 hb hb0 (by first | exact hz | exact pm_bad_lt hz (by decide)) (decide (tK b N z.1 = 2))) kX7_must mX7_140 dX7_number_53 (by decide) rfl rfl rfl rfl rfl (Nat.le_of_ble_eq_true rfl) rfl ⟨Nat.le_refl _, Nat.le_refl _⟩ ?_
          refine ax_iload_3 (pc := 56) C dX7_number_56 ?_
          exact ax_ir (pc := 57) C rfl dX7_number_57 (by rw [pm_val, if_pos h0]) (by rw [pm_num_3 h0 h19 h31])
        · have h45 : tK b N z.1 = 2 := by first | exact mr_K3.mp h45 | (have q := mr_K3.mp h45; rw [pm_bad, if_pos h0] at q; exact q)
          refine ax_iconst (pc := 48) (v := 1) C dX7_number_48 (by decide) ?_
          refine ax_val C (show (1 : Int32) = ax_b ((decide (tK b N z.1 = 2)) = true) from (ax_b1 (decide_eq_true h45)).symm) ?_
          refine ax_goto (pc := 49) (tgt := 53) C dX7_number_49 (by decide) ?_
          refine ax_callVv (pc := 53) C (w_X7_must F hN h400 hb hb0 (by first | exact hz | exact pm_bad_lt hz (by decide)) (decide (tK b N z.1 = 2))) kX7_must mX7_140 dX7_number_53 (by decide) rfl rfl rfl rfl rfl (Nat.le_of_ble_eq_true rfl) rfl ⟨Nat.le_refl _, Nat.le_refl _⟩ ?_
          refine ax_iload_3 (pc := 56) C dX7_number_56 ?_
          exact ax_ir (pc := 57) C rfl dX7_number_57 (by rw [pm_val, if_pos h0]) (by rw [pm_num_3 h0 h19 h31])
  · have h0 : ¬ z.2 = 0 := fun q => h4 (by rw [q]; decide)
    refine ax_iconst (pc := 7) (v := 0) C dX7_number_7 (by decide) ?_
    exact ax_ir (pc := 8) C rfl dX7_number_8 (by rw [pm_val, if_neg h0]) (by rw [pm_num_n h0])

set_option maxRecDepth 20000 in
set_option maxHeartbeats 4000000 in
theorem w_X7_mustEnd {Y : ax_Y} {ad : Nat → Nat} (F : ax_F Y) {l : Launch} {σ : ax_Z} {b : Nat → Int32} {N : Nat} (hN : σ 77 13 = nI N) (h400 : N ≤ 400) (hb : σ 84 = b) (hb0 : ∀ i, i < N → b i ≠ -1000000) {z : Nat × Nat} (hz : z.2 < 4) : ax_m Y ad l iX7_mustEnd 3 (mr σ b N z) [.ref (ad 77)] none (mr σ b N (pm_end b N z)) := by
  refine ax_m.of F kX7_mustEnd.1 [some (.ref (ad 77))] rfl (Nat.le_of_ble_eq_true rfl) (fun x C => ?_)
  refine ax_aload_0 (pc := 0) C dX7_mustEnd_0 ?_
  refine ax_getI (pc := 1) C fX7_123 dX7_mustEnd_1 rfl rfl ?_
  refine ax_val C mr_18 ?_
  refine ax_if_ne (pc := 4) (tgt := 24) C dX7_mustEnd_4 (by decide) (fun h4 => ?_) (fun h4 => ?_)
  · exact ax_vr (pc := 24) C rfl dX7_mustEnd_24 (by rw [pm_end, pm_must_n (fun q => h4 (by rw [q]; rfl))])
  · refine ax_aload_0 (pc := 7) C dX7_mustEnd_7 ?_
    refine ax_aload_0 (pc := 8) C dX7_mustEnd_8 ?_
    refine ax_getI (pc := 9) C fX7_111 dX7_mustEnd_9 rfl rfl ?_
    refine ax_iconst (pc := 12) (v := 4) C dX7_mustEnd_12 (by decide) ?_
    refine ax_icmp_ne (pc := 13) (tgt := 20) C dX7_mustEnd_13 (by decide) (fun h13 => ?_) (fun h13 => ?_)
    · have h13 : ¬ tK b N z.1 = 3 := fun q => h13 (mr_K4.mpr q)
      refine ax_iconst (pc := 20) (v := 0) C dX7_mustEnd_20 (by decide) ?_
      refine ax_val C (show (0 : Int32) = ax_b ((decide (tK b N z.1 = 3)) = true) from (ax_b0 (fun q => h13 (of_decide_eq_true q))).symm) ?_
      refine ax_callVv (pc := 21) C (w_X7_must F hN h400 hb hb0 hz (decide (tK b N z.1 = 3))) kX7_must mX7_140 dX7_mustEnd_21 (by decide) rfl rfl rfl rfl rfl (Nat.le_of_ble_eq_true rfl) rfl ⟨Nat.le_refl _, Nat.le_refl _⟩ ?_
      exact ax_vr (pc := 24) C rfl dX7_mustEnd_24 rfl
    · have h13 : tK b N z.1 = 3 := mr_K4.mp h13
      refine ax_iconst (pc := 16) (v := 1) C dX7_mustEnd_16 (by decide) ?_
      refine ax_val C (show (1 : Int32) = ax_b ((decide (tK b N z.1 = 3)) = true) from (ax_b1 (decide_eq_true h13)).symm) ?_
      refine ax_goto (pc := 17) (tgt := 21) C dX7_mustEnd_17 (by decide) ?_
      refine ax_callVv (pc := 21) C (w_X7_must F hN h400 hb hb0 hz (decide (tK b N z.1 = 3))) kX7_must mX7_140 dX7_mustEnd_21 (by decide) rfl rfl rfl rfl rfl (Nat.le_of_ble_eq_true rfl) rfl ⟨Nat.le_refl _, Nat.le_refl _⟩ ?_
      exact ax_vr (pc := 24) C rfl dX7_mustEnd_24 rfl

set_option maxRecDepth 20000 in
set_option maxHeartbeats 4000000 in
theorem w_X7_readToll {Y : ax_Y} {ad : Nat → Nat} (F : ax_F Y) {l : Launch} {σ : ax_Z} {b : Nat → Int32} {N : Nat} (hN : σ 77 13 = nI N) (h400 : N ≤ 400) (hb : σ 84 = b) (hb0 : ∀ i, i < N → b i ≠ -1000000) {z : Nat × Nat} (hz : z.2 < 4) : ax_m Y ad l iX7_readToll 4 (mr σ b N z) [.ref (ad 77)] none (mr (pm_tf σ b N (pm_must (decide (pm_n b N z = 1953459308)) z) 6) b N (pm_end b N (pm_tz b N (pm_must (decide (pm_n b N z = 1953459308)) z) 6))) := by
  refine ax_m.of F kX7_readToll.1 [some (.ref (ad 77)), none] rfl (Nat.le_of_ble_eq_true rfl) (fun x C => ?_)
  have hz1 : (pm_must (decide (pm_n b N z = 1953459308)) z).2 < 4 := pm_must_lt hz
  have loop : ∀ (q : Nat) (n : Nat), n ≤ 6 → 6 < n + q → ax_S x Y ad 0 0 (ax_Q x Y ad none 96 (ax_g Y ad (mr (pm_tf σ b N (pm_must (decide (pm_n b N z = 1953459308)) z) 6) b N (pm_end b N (pm_tz b N (pm_must (decide (pm_n b N z = 1953459308)) z) 6)))) 0 0) (mr (pm_tf σ b N (pm_must (decide (pm_n b N z = 1953459308)) z) n) b N (pm_tz b N (pm_must (decide (pm_n b N z = 1953459308)) z) n)) 22 [some (.ref (ad 77)), some (.int (nI n))] [] := by
    intro q
    induction q with
    | zero => intro n h1 h2; exfalso; omega
    | succ q ih =>
      intro n h1 h2
      refine ax_iload_1 (pc := 22) C dX7_readToll_22 ?_
      refine ax_bipush (pc := 23) (v := 6) C dX7_readToll_23 (by decide) ?_
      refine ax_icmp_ge (pc := 25) (tgt := 49) C dX7_readToll_25 (by decide) (fun h25 => ?_) (fun h25 => ?_)
      · have hn6 : n = 6 := Nat.le_antisymm h1 (Nat.le_of_not_lt (fun q => nI_ge (a := n) (b := 6) q (by decide) h25))
        refine ax_aload_0 (pc := 49) C dX7_readToll_49 ?_
        refine ax_callVv (pc := 50) C (w_X7_mustEnd F ((pm_tf_at (by decide)).trans hN) h400 ((pm_tf_ne (by decide)).trans hb) hb0 (pm_tz_lt hz1 n)) kX7_mustEnd mX7_164 dX7_readToll_50 (by decide) rfl rfl rfl rfl rfl (Nat.le_of_ble_eq_true rfl) rfl ⟨Nat.le_refl _, Nat.le_refl _⟩ ?_
        exact ax_vr (pc := 53) C rfl dX7_readToll_53 (by rw [hn6])
      · have hn6 : n < 6 := Nat.lt_of_not_le (fun q => h25 (nI_le (a := 6) q (by omega)))
        refine ax_aload_0 (pc := 28) C dX7_readToll_28 ?_
        refine ax_getR (pc := 29) C fX7_22 dX7_readToll_29 rfl rfl ?_
        refine ax_iconst (pc := 32) (v := 2) C dX7_readToll_32 (by decide) ?_
        refine ax_iload_1 (pc := 33) C dX7_readToll_33 ?_
        refine ax_iadd (pc := 34) C dX7_readToll_34 ?_
        refine ax_aload_0 (pc := 35) C dX7_readToll_35 ?_
        refine ax_iconst (pc := 36) (v := 0) C dX7_readToll_36 (by decide) ?_
        refine ax_bipush (pc := 37) (v := 99) C dX7_readToll_37 (by decide) ?_
        refine ax_callVi (pc := 39) C (w_X7_number F ((pm_tf_at (by decide)).trans hN) h400 ((pm_tf_ne (by decide)).trans hb) hb0 (pm_tz_lt hz1 n) 99) kX7_number mX7_160 dX7_readToll_39 (by decide) rfl rfl rfl rfl rfl (Nat.le_of_ble_eq_true rfl) rfl ⟨Nat.le_refl _, Nat.le_refl _⟩ ?_
        refine ax_ise (pc := 42) (c := 2 + n) C dX7_readToll_42 rfl (by rw [show (2 : Int32) = nI 2 from rfl, nI_add]) (by omega) (by decide) ?_
        refine ax_iinc_1 (pc := 43) C dX7_readToll_43 (1) (by decide) rfl ?_
        refine ax_goto (pc := 46) (tgt := 22) C dX7_readToll_46 (by decide) ?_
        refine ax_SLeq (mr_up (by decide)) (by rw [nI_1]) (ih (n + 1) (by omega) (by omega))
  refine ax_aload_0 (pc := 0) C dX7_readToll_0 ?_
  refine ax_aload_0 (pc := 1) C dX7_readToll_1 ?_
  refine ax_callVl (pc := 2) C (w_X7_name F mr_16 mr_17 (tkE_le (EE_le _)).1 (Nat.le_trans (EE_le _) h400)) kX7_name mX7_154 dX7_readToll_2 (by decide) rfl rfl rfl rfl rfl (Nat.le_of_ble_eq_true rfl) rfl ⟨Nat.le_refl _, Nat.le_refl _⟩ ?_
  refine ax_lval C (mr_n hz hb) ?_
  refine ax_ldc2 (pc := 5) C dX7_readToll_5 qX7_158 ?_
  refine ax_lcmp (pc := 8) C dX7_readToll_8 ?_
  refine ax_if_ne (pc := 9) (tgt := 16) C dX7_readToll_9 (by decide) (fun h9 => ?_) (fun h9 => ?_)
  · refine ax_iconst (pc := 16) (v := 0) C dX7_readToll_16 (by decide) ?_
    refine ax_val C (show (0 : Int32) = ax_b ((decide (pm_n b N z = 1953459308)) = true) from (ax_b0 (fun q => h9 ((lg_cmp_eq _ _).mpr (of_decide_eq_true q)))).symm) ?_
    refine ax_callVv (pc := 17) C (w_X7_must F hN h400 hb hb0 hz (decide (pm_n b N z = 1953459308))) kX7_must mX7_140 dX7_readToll_17 (by decide) rfl rfl rfl rfl rfl (Nat.le_of_ble_eq_true rfl) rfl ⟨Nat.le_refl _, Nat.le_refl _⟩ ?_
    refine ax_iconst (pc := 20) (v := 0) C dX7_readToll_20 (by decide) ?_
    refine ax_istore_1 (pc := 21) C dX7_readToll_21 rfl ?_
    exact loop 7 0 (by omega) (by omega)
  · refine ax_iconst (pc := 12) (v := 1) C dX7_readToll_12 (by decide) ?_
    refine ax_val C (show (1 : Int32) = ax_b ((decide (pm_n b N z = 1953459308)) = true) from (ax_b1 (decide_eq_true ((lg_cmp_eq _ _).mp h9))).symm) ?_
    refine ax_goto (pc := 13) (tgt := 17) C dX7_readToll_13 (by decide) ?_
    refine ax_callVv (pc := 17) C (w_X7_must F hN h400 hb hb0 hz (decide (pm_n b N z = 1953459308))) kX7_must mX7_140 dX7_readToll_17 (by decide) rfl rfl rfl rfl rfl (Nat.le_of_ble_eq_true rfl) rfl ⟨Nat.le_refl _, Nat.le_refl _⟩ ?_
    refine ax_iconst (pc := 20) (v := 0) C dX7_readToll_20 (by decide) ?_
    refine ax_istore_1 (pc := 21) C dX7_readToll_21 rfl ?_
    exact loop 7 0 (by omega) (by omega)
