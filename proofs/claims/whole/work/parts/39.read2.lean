/-- where the i-th token's search begins -/
def EE (b : Nat → Int32) (N : Nat) : Nat → Nat
  | 0 => 0
  | i + 1 => tkE b N (EE b N i)
theorem EE_le {b : Nat → Int32} {N : Nat} (i : Nat) : EE b N i ≤ N := by
  induction i with
  | zero => exact Nat.zero_le N
  | succ i ih => exact (tkE_le ih).2
/-- what a number is worth -/
def tkv (b : Nat → Int32) (N e : Nat) : Int32 := lx_v b (tkS b N e) (LX (isF b) N (tkS b N e) - tkS b N e)
theorem tkV_n {b : Nat → Int32} {N e : Nat} {v : Int32} (h : tkK b N e = 2) : tkV b N e v = tkv b N e := by
  unfold tkK at h
  unfold tkV tkv
  split
  · next q => rw [if_pos q] at h; cases h
  · next q =>
    rw [if_neg q] at h
    split
    · next q2 => rw [if_pos q2] at h; cases h
    · next q2 =>
      rw [if_neg q2] at h
      split
      · rfl
      · next q3 =>
        rw [if_neg q3] at h
        split at h <;> cases h
/-- the reader stands behind i tokens of the tape b -/
def rd_at (τ : ax_Z) (b : Nat → Int32) (N i : Nat) : Prop := τ 2 1 = nI N ∧ τ 2 5 = nI (EE b N i) ∧ τ 3 = b
theorem rd_at.go {τ : ax_Z} {b : Nat → Int32} {N i : Nat} (h : rd_at τ b N i) : rd_at (rd_go τ N (EE b N i)) b N (i + 1) := by
  obtain ⟨h1, h2, h3⟩ := h
  refine ⟨rd_st_1.trans h1, ?_, (rd_go_ne (by decide)).trans h3⟩
  unfold rd_go
  rw [rd_st_5, h3]
  rfl
theorem rd_at.up {τ : ax_Z} {b : Nat → Int32} {N i k j : Nat} {v : Int32} (h : rd_at τ b N i) (hk : k ≠ 2 ∧ k ≠ 3) : rd_at (ax_up τ k j v) b N i := by
  obtain ⟨h1, h2, h3⟩ := h
  exact ⟨by rw [up_ne (by omega)]; exact h1, by rw [up_ne (by omega)]; exact h2, by rw [up_ne (by omega)]; exact h3⟩
theorem rd_go_t {τ : ax_Z} {b : Nat → Int32} {N i : Nat} (h : rd_at τ b N i) : rd_go τ N (EE b N i) 2 3 = nI (tkK b N (EE b N i)) ∧ rd_go τ N (EE b N i) 2 4 = nI (tkS b N (EE b N i)) := by
  unfold rd_go
  rw [rd_st_3, rd_st_4, h.2.2]
  exact ⟨rfl, rfl⟩
theorem rd_go_v {τ : ax_Z} {b : Nat → Int32} {N i : Nat} (h : rd_at τ b N i) (hk : tkK b N (EE b N i) = 2) : rd_go τ N (EE b N i) 2 6 = tkv b N (EE b N i) := by
  unfold rd_go
  rw [rd_st_6, h.2.2, tkV_n hk]
/-- the i-th token is a number up to most -/
def nu_ok (b : Nat → Int32) (N i : Nat) (most : Int32) : Prop := tkK b N (EE b N i) = 2 ∧ tkv b N (EE b N i) ≤ most
theorem nu_iff {τ : ax_Z} {b : Nat → Int32} {N i : Nat} {most : Int32} (h : rd_at τ b N i) : (tkK (τ 3) N (EE b N i) = 2 ∧ tkV (τ 3) N (EE b N i) (τ 2 6) ≤ most) ↔ nu_ok b N i most := by
  rw [h.2.2]
  constructor
  · intro q
    exact ⟨q.1, by rw [← tkV_n q.1]; exact q.2⟩
  · intro q
    exact ⟨q.1, by rw [tkV_n q.1]; exact q.2⟩
theorem rn_S_ok {τ : ax_Z} {b : Nat → Int32} {N i : Nat} {most : Int32} (h : rd_at τ b N i) (q : nu_ok b N i most) : rn_S τ N (EE b N i) most = rd_go τ N (EE b N i) := by
  obtain ⟨q1, q2⟩ := (nu_iff h).mpr q
  rw [rn_S, if_pos q1, if_pos q2]
/-- the tolls read so far -/
def tl_S (τ : ax_Z) (b : Nat → Int32) (N : Nat) : Nat → ax_Z
  | 0 => τ
  | n + 1 => ax_up (rd_go (tl_S τ b N n) N (EE b N (n + 1))) 5 n (tkv b N (EE b N (n + 1)))
theorem tl_at {τ : ax_Z} {b : Nat → Int32} {N : Nat} (h : rd_at τ b N 1) (n : Nat) : rd_at (tl_S τ b N n) b N (n + 1) := by
  induction n with
  | zero => exact h
  | succ n ih => exact ih.go.up (by decide)
/-- the six tolls and the sign: does it go through; the state behind it -/
def tl_B (b : Nat → Int32) (N : Nat) : Nat → Nat → Bool
  | 0, n => decide (tkK b N (EE b N (n + 1)) = 3)
  | q + 1, n => if tkK b N (EE b N (n + 1)) = 2 ∧ tkv b N (EE b N (n + 1)) ≤ 99 then tl_B b N q (n + 1) else false
def tl_P (τ : ax_Z) (b : Nat → Int32) (N : Nat) : Nat → Nat → ax_Z
  | 0, n => rs_S (tl_S τ b N n) N (EE b N (n + 1))
  | q + 1, n => if tkK b N (EE b N (n + 1)) = 2 ∧ tkv b N (EE b N (n + 1)) ≤ 99 then tl_P τ b N q (n + 1) else rn_S (tl_S τ b N n) N (EE b N (n + 1)) 99
/-- token i is text k -/
def wd_t (b : Nat → Int32) (N i k : Nat) : Bool := decide (tkK b N (EE b N i) = 1) && wd b (tkS b N (EE b N i)) (EE b N (i + 1)) k
theorem wd_t_iff {b : Nat → Int32} {N i k : Nat} : (tkK b N (EE b N i) = 1 ∧ wd b (tkS b N (EE b N i)) (EE b N (i + 1)) k = true) ↔ wd_t b N i k = true := by
  unfold wd_t
  rw [Bool.and_eq_true, decide_eq_true_eq]
def kd_t (b : Nat → Int32) (N i : Nat) : Nat := wd_k b (tkK b N (EE b N i)) (tkS b N (EE b N i)) (EE b N (i + 1))
/-- a cart read, j the number of its first token, c the cart's number -/
def ca_1 (τ : ax_Z) (b : Nat → Int32) (N j c : Nat) : ax_Z := ax_up (rd_go τ N (EE b N (j + 1))) 6 c (nI (kd_t b N (j + 1)))
def ca_2 (τ : ax_Z) (b : Nat → Int32) (N j c : Nat) : ax_Z := ax_up (rd_go (ca_1 τ b N j c) N (EE b N (j + 2))) 7 c (tkv b N (EE b N (j + 2)))
def ca_3 (τ : ax_Z) (b : Nat → Int32) (N j c : Nat) : ax_Z := ax_up (rd_go (ca_2 τ b N j c) N (EE b N (j + 3))) 8 c (tkv b N (EE b N (j + 3)))
def ca_4 (τ : ax_Z) (b : Nat → Int32) (N j c : Nat) : ax_Z := ax_up (rd_go (ca_3 τ b N j c) N (EE b N (j + 4))) 9 c (tkv b N (EE b N (j + 4)))
def ca_5 (τ : ax_Z) (b : Nat → Int32) (N j c : Nat) : ax_Z := ax_up (ca_4 τ b N j c) 4 10 (nI (c + 1))
theorem ca_1_at {τ : ax_Z} {b : Nat → Int32} {N j c : Nat} (h : rd_at τ b N (j + 1)) : rd_at (ca_1 τ b N j c) b N (j + 2) := h.go.up (by decide)
theorem ca_2_at {τ : ax_Z} {b : Nat → Int32} {N j c : Nat} (h : rd_at τ b N (j + 1)) : rd_at (ca_2 τ b N j c) b N (j + 3) := (ca_1_at h).go.up (by decide)
theorem ca_3_at {τ : ax_Z} {b : Nat → Int32} {N j c : Nat} (h : rd_at τ b N (j + 1)) : rd_at (ca_3 τ b N j c) b N (j + 4) := (ca_2_at h).go.up (by decide)
theorem ca_4_at {τ : ax_Z} {b : Nat → Int32} {N j c : Nat} (h : rd_at τ b N (j + 1)) : rd_at (ca_4 τ b N j c) b N (j + 5) := (ca_3_at h).go.up (by decide)
theorem ca_5_at {τ : ax_Z} {b : Nat → Int32} {N j c : Nat} (h : rd_at τ b N (j + 1)) : rd_at (ca_5 τ b N j c) b N (j + 5) := (ca_4_at h).up (by decide)

set_option maxRecDepth 20000 in
set_option maxHeartbeats 4000000 in
theorem w_X4_readToll {Y : ax_Y} {ad : Nat → Nat} (F : ax_F Y) {l : Launch} {σ : ax_Z} {b : Nat → Int32} {N : Nat} (hr : rd_at σ b N 0) (h400 : N ≤ 400) : ax_m Y ad l iX4_readToll 5 σ [.ref (ad 2)] (some (.int (ax_b (wd_t b N 0 0 = true ∧ tl_B b N 6 0 = true)))) (if wd_t b N 0 0 = true then tl_P (rd_go σ N (EE b N 0)) b N 6 0 else ax_up (rd_go σ N (EE b N 0)) 2 7 1) := by
  obtain ⟨a0, v0, hg0⟩ := ax_Sg_0 F
  refine ax_m.of F kX4_readToll.1 [some (.ref (ad 2)), none] rfl (Nat.le_of_ble_eq_true rfl) (fun x C => ?_)
  have g3 : (rd_go σ N (EE b N 0)) 3 = b := hr.go.2.2
  have loop : ∀ (q : Nat) (n q0 : Nat), wd_t b N 0 0 = true → n + q0 = 6 → tl_B b N q0 n = tl_B b N 6 0 → tl_P (rd_go σ N (EE b N 0)) b N q0 n = tl_P (rd_go σ N (EE b N 0)) b N 6 0 → q0 < q → ax_S x Y ad 0 0 (ax_Q x Y ad (some (.int (ax_b (wd_t b N 0 0 = true ∧ tl_B b N 6 0 = true)))) 96 (ax_g Y ad (tl_P (rd_go σ N (EE b N 0)) b N 6 0)) 0 0) (tl_S (rd_go σ N (EE b N 0)) b N n) 21 [some (.ref (ad 2)), some (.int (nI n))] [] := by
    intro q
    induction q with
    | zero => intro n q0 hw hnq hB hP h2; exfalso; omega
    | succ q ih =>
      intro n q0 hw hnq hB hP h2
      refine ax_iload_1 (pc := 21) C dX4_readToll_21 ?_
      refine ax_bipush (pc := 22) (v := 6) C dX4_readToll_22 (by decide) ?_
      refine ax_icmp_ge (pc := 24) (tgt := 57) C dX4_readToll_24 (by decide) (fun h24 => ?_) (fun h24 => ?_)
      · have hn : ¬ n < 6 := fun z => nI_ge (a := n) (b := 6) z (by decide) h24
        refine ax_aload_0 (pc := 57) C dX4_readToll_57 ?_
        refine ax_callVi (pc := 58) C (w_X4_readSign F (tl_at hr.go n).1 h400 (tl_at hr.go n).2.1 (EE_le _)) kX4_readSign mX4_71 dX4_readToll_58 (by decide) rfl rfl rfl rfl rfl (Nat.le_of_ble_eq_true rfl) rfl ⟨Nat.le_refl _, Nat.le_refl _⟩ ?_
        exact ax_zr (pc := 61) C rfl (by first | rfl | (unfold ax_b; split <;> rfl)) dX4_readToll_61 (by rw [← hB, show q0 = 0 by omega, tl_B, (tl_at hr.go n).2.2]; exact ax_bcong (by simp [hw])) (by rw [← hP, show q0 = 0 by omega]; rfl)
      · have hn : n < 6 := Nat.lt_of_not_le (fun z => h24 (nI_le (a := 6) z (by omega)))
        obtain ⟨q1, rfl⟩ : ∃ q1, q0 = q1 + 1 := ⟨q0 - 1, by omega⟩
        refine ax_aload_0 (pc := 27) C dX4_readToll_27 ?_
        refine ax_bipush (pc := 28) (v := 99) C dX4_readToll_28 (by decide) ?_
        refine ax_callVi (pc := 30) C (w_X4_readNumber F (tl_at hr.go n).1 h400 (tl_at hr.go n).2.1 (EE_le _)) kX4_readNumber mX4_62 dX4_readToll_30 (by decide) rfl rfl rfl rfl rfl (Nat.le_of_ble_eq_true rfl) rfl ⟨Nat.le_refl _, Nat.le_refl _⟩ ?_
        refine ax_if_ne (pc := 33) (tgt := 38) C dX4_readToll_33 (by decide) (fun h33 => ?_) (fun h33 => ?_)
        · have h33 := ax_bne h33
          have h33 : (tkK b N (EE b N (n + 1)) = 2 ∧ tkv b N (EE b N (n + 1)) ≤ 99) := (nu_iff (tl_at hr.go n)).mp h33
          rw [rn_S_ok (tl_at hr.go n) h33]
          refine ax_aload_0 (pc := 38) C dX4_readToll_38 ?_
          refine ax_getR (pc := 39) C fX4_18 dX4_readToll_39 rfl rfl ?_
          refine ax_getR (pc := 42) C fX4_65 dX4_readToll_42 rfl rfl ?_
          refine ax_iload_1 (pc := 45) C dX4_readToll_45 ?_
          refine ax_aload_0 (pc := 46) C dX4_readToll_46 ?_
          refine ax_getI (pc := 47) C fX4_68 dX4_readToll_47 rfl rfl ?_
          refine ax_val C (rd_go_v (tl_at hr.go n) h33.1) ?_
          refine ax_isn (pc := 50) C dX4_readToll_50 rfl (by omega) (by decide) ?_
          refine ax_iinc_1 (pc := 51) C dX4_readToll_51 (1) (by decide) rfl ?_
          refine ax_goto (pc := 54) (tgt := 21) C dX4_readToll_54 (by decide) ?_
          rw [tl_B, if_pos h33] at hB
          rw [tl_P, if_pos h33] at hP
          refine ax_Leq (by rw [nI_1]) (ih (n + 1) q1 hw (by omega) hB hP (by omega))
        · have h33 := ax_beq h33
          have h33 : ¬ (tkK b N (EE b N (n + 1)) = 2 ∧ tkv b N (EE b N (n + 1)) ≤ 99) := fun z => h33 ((nu_iff (tl_at hr.go n)).mpr z)
          refine ax_iconst (pc := 36) (v := 0) C dX4_readToll_36 (by decide) ?_
          exact ax_zr (pc := 37) C rfl (by first | rfl | (unfold ax_b; split <;> rfl)) dX4_readToll_37 (ax_b0 (fun z => by have q := z.2; rw [← hB, tl_B, if_neg h33] at q; cases q)) (by rw [← hP, tl_P, if_neg h33])
  refine ax_aload_0 (pc := 0) C dX4_readToll_0 ?_
  refine ax_callVv (pc := 1) C (w_X4_step F hr.1 h400 hr.2.1 (EE_le 0)) kX4_step mX4_40 dX4_readToll_1 (by decide) rfl rfl rfl rfl rfl (Nat.le_of_ble_eq_true rfl) rfl ⟨Nat.le_refl _, Nat.le_refl _⟩ ?_
  refine ax_aload_0 (pc := 4) C dX4_readToll_4 ?_
  refine ax_ldcs (pc := 5) C (k := 0) hg0 rfl dX4_readToll_5 ?_
  refine ax_callVi (pc := 7) C (w_X4_isWord F (K := tkK b N (EE b N 0)) (s := tkS b N (EE b N 0)) (e := EE b N 1) hg0 (by decide) (rd_go_t hr).1 tkK_lt (rd_go_t hr).2 hr.go.2.1 (tkE_le (EE_le 0)).1 (Nat.le_trans (EE_le 1) h400)) kX4_isWord mX4_54 dX4_readToll_7 (by decide) rfl rfl rfl rfl rfl (Nat.le_of_ble_eq_true rfl) rfl ⟨Nat.le_refl _, Nat.le_refl _⟩ ?_
  refine ax_if_ne (pc := 10) (tgt := 19) C dX4_readToll_10 (by decide) (fun h10 => ?_) (fun h10 => ?_)
  · have h10 := ax_bne h10
    rw [g3] at h10
    have h10 := wd_t_iff.mp h10
    rw [if_pos h10]
    refine ax_iconst (pc := 19) (v := 0) C dX4_readToll_19 (by decide) ?_
    refine ax_istore_1 (pc := 20) C dX4_readToll_20 rfl ?_
    exact loop 7 0 6 h10 rfl rfl rfl (by omega)
  · have h10 := ax_beq h10
    rw [g3] at h10
    have h10 : ¬ wd_t b N 0 0 = true := fun z => h10 (wd_t_iff.mpr z)
    refine ax_aload_0 (pc := 13) C dX4_readToll_13 ?_
    refine ax_iconst (pc := 14) (v := 1) C dX4_readToll_14 (by decide) ?_
    refine ax_callVi (pc := 15) C (w_X4_fail F) kX4_fail mX4_58 dX4_readToll_15 (by decide) rfl rfl rfl rfl rfl (Nat.le_of_ble_eq_true rfl) rfl ⟨Nat.le_refl _, Nat.le_refl _⟩ ?_
    exact ax_zr (pc := 18) C rfl rfl dX4_readToll_18 (ax_b0 (fun z => h10 z.1)) (if_neg h10)

/-- does a cart go through -/
def ca_B (b : Nat → Int32) (N j c : Nat) : Bool := (if wd_t b N j 1 = true then (if c < 6 then (if kd_t b N (j + 1) = 0 then false else if (tkK b N (EE b N (j + 2)) = 2 ∧ tkv b N (EE b N (j + 2)) ≤ 11) then (if (tkK b N (EE b N (j + 3)) = 2 ∧ tkv b N (EE b N (j + 3)) ≤ 20) then (if (tkK b N (EE b N (j + 4)) = 2 ∧ tkv b N (EE b N (j + 4)) ≤ 11) then decide (tkK b N (EE b N (j + 5)) = 3) else false) else false) else false) else false) else false)
/-- the state behind a cart -/
def ca_P (σ : ax_Z) (b : Nat → Int32) (N j c : Nat) : ax_Z := (if wd_t b N j 1 = true then (if c < 6 then (if kd_t b N (j + 1) = 0 then ax_up (ca_1 σ b N j c) 2 7 1 else if (tkK b N (EE b N (j + 2)) = 2 ∧ tkv b N (EE b N (j + 2)) ≤ 11) then (if (tkK b N (EE b N (j + 3)) = 2 ∧ tkv b N (EE b N (j + 3)) ≤ 20) then (if (tkK b N (EE b N (j + 4)) = 2 ∧ tkv b N (EE b N (j + 4)) ≤ 11) then rs_S (ca_5 σ b N j c) N (EE b N (j + 5)) else rn_S (ca_3 σ b N j c) N (EE b N (j + 4)) 11) else rn_S (ca_2 σ b N j c) N (EE b N (j + 3)) 20) else rn_S (ca_1 σ b N j c) N (EE b N (j + 2)) 11) else ax_up σ 2 7 3) else ax_up σ 2 7 1)
theorem wd_k_lt {b : Nat → Int32} {K s e : Nat} : wd_k b K s e < 6 := by
  unfold wd_k
  repeat' split
  all_goals decide
theorem kd_t_lt {b : Nat → Int32} {N i : Nat} : kd_t b N i < 6 := wd_k_lt
set_option maxRecDepth 20000 in
set_option maxHeartbeats 4000000 in
theorem w_X4_readCart {Y : ax_Y} {ad : Nat → Nat} (F : ax_F Y) {l : Launch} {σ : ax_Z} {b : Nat → Int32} {N j c : Nat} (hr : rd_at σ b N (j + 1)) (h400 : N ≤ 400) (hK : σ 2 3 = nI (tkK b N (EE b N j))) (hS : σ 2 4 = nI (tkS b N (EE b N j))) (hc : σ 4 10 = nI c) (hc6 : c ≤ 6) : ax_m Y ad l iX4_readCart 6 σ [.ref (ad 2)] (some (.int (ax_b (ca_B b N j c = true)))) (ca_P σ b N j c) := by
  obtain ⟨a1, v1, hg1⟩ := ax_Sg_1 F
  refine ax_m.of F kX4_readCart.1 [some (.ref (ad 2)), none] rfl (Nat.le_of_ble_eq_true rfl) (fun x C => ?_)
  refine ax_aload_0 (pc := 0) C dX4_readCart_0 ?_
  refine ax_ldcs (pc := 1) C (k := 1) hg1 rfl dX4_readCart_1 ?_
  refine ax_callVi (pc := 3) C (w_X4_isWord F hg1 (by decide) hK tkK_lt hS hr.2.1 (tkE_le (EE_le j)).1 (Nat.le_trans (EE_le _) h400)) kX4_isWord mX4_54 dX4_readCart_3 (by decide) rfl rfl rfl rfl rfl (Nat.le_of_ble_eq_true rfl) rfl ⟨Nat.le_refl _, Nat.le_refl _⟩ ?_
  refine ax_if_ne (pc := 6) (tgt := 15) C dX4_readCart_6 (by decide) (fun h6 => ?_) (fun h6 => ?_)
  · have h6 := ax_bne h6
    rw [hr.2.2] at h6
    have h6 := wd_t_iff.mp h6
    refine ax_aload_0 (pc := 15) C dX4_readCart_15 ?_
    refine ax_getR (pc := 16) C fX4_18 dX4_readCart_16 rfl rfl ?_
    refine ax_getI (pc := 19) C fX4_22 dX4_readCart_19 rfl rfl ?_
    refine ax_val C hc ?_
    refine ax_istore_1 (pc := 22) C dX4_readCart_22 rfl ?_
    refine ax_iload_1 (pc := 23) C dX4_readCart_23 ?_
    refine ax_bipush (pc := 24) (v := 6) C dX4_readCart_24 (by decide) ?_
    refine ax_icmp_lt (pc := 26) (tgt := 35) C dX4_readCart_26 (by decide) (fun h26 => ?_) (fun h26 => ?_)
    · have h26 : c < 6 := (nI_ltI (b := 6) (by omega) (by decide)).mp h26
      refine ax_aload_0 (pc := 35) C dX4_readCart_35 ?_
      refine ax_callVv (pc := 36) C (w_X4_step F hr.1 h400 hr.2.1 (EE_le _)) kX4_step mX4_40 dX4_readCart_36 (by decide) rfl rfl rfl rfl rfl (Nat.le_of_ble_eq_true rfl) rfl ⟨Nat.le_refl _, Nat.le_refl _⟩ ?_
      refine ax_aload_0 (pc := 39) C dX4_readCart_39 ?_
      refine ax_getR (pc := 40) C fX4_18 dX4_readCart_40 rfl rfl ?_
      refine ax_getR (pc := 43) C fX4_76 dX4_readCart_43 rfl rfl ?_
      refine ax_iload_1 (pc := 46) C dX4_readCart_46 ?_
      refine ax_aload_0 (pc := 47) C dX4_readCart_47 ?_
      refine ax_callVi (pc := 48) C (w_X4_kindNamed F (K := tkK b N (EE b N (j + 1))) (s := tkS b N (EE b N (j + 1))) (e := EE b N (j + 2)) (rd_go_t hr).1 tkK_lt (rd_go_t hr).2 hr.go.2.1 (tkE_le (EE_le _)).1 (Nat.le_trans (EE_le _) h400)) kX4_kindNamed mX4_79 dX4_readCart_48 (by decide) rfl rfl rfl rfl rfl (Nat.le_of_ble_eq_true rfl) rfl ⟨Nat.le_refl _, Nat.le_refl _⟩ ?_
      refine ax_val C (show nI (wd_k (rd_go σ N (EE b N (j + 1)) 3) (tkK b N (EE b N (j + 1))) (tkS b N (EE b N (j + 1))) (EE b N (j + 2))) = nI (kd_t b N (j + 1)) by rw [hr.go.2.2]; rfl) ?_
      refine ax_isn (pc := 51) C dX4_readCart_51 rfl (by omega) (by decide) ?_
      refine ax_aload_0 (pc := 52) C dX4_readCart_52 ?_
      refine ax_getR (pc := 53) C fX4_18 dX4_readCart_53 rfl rfl ?_
      refine ax_getR (pc := 56) C fX4_76 dX4_readCart_56 rfl rfl ?_
      refine ax_iload_1 (pc := 59) C dX4_readCart_59 ?_
      refine ax_ian (pc := 60) C dX4_readCart_60 rfl (by omega) (by decide) ?_
      refine ax_val C up_s ?_
      refine ax_if_ne (pc := 61) (tgt := 70) C dX4_readCart_61 (by decide) (fun h61 => ?_) (fun h61 => ?_)
      · have h61 : ¬ kd_t b N (j + 1) = 0 := fun z => h61 (by rw [z]; rfl)
        refine ax_aload_0 (pc := 70) C dX4_readCart_70 ?_
        refine ax_bipush (pc := 71) (v := 11) C dX4_readCart_71 (by decide) ?_
        refine ax_callVi (pc := 73) C (w_X4_readNumber F (ca_1_at hr).1 h400 (ca_1_at hr).2.1 (EE_le _)) kX4_readNumber mX4_62 dX4_readCart_73 (by decide) rfl rfl rfl rfl rfl (Nat.le_of_ble_eq_true rfl) rfl ⟨Nat.le_refl _, Nat.le_refl _⟩ ?_
        refine ax_if_ne (pc := 76) (tgt := 81) C dX4_readCart_76 (by decide) (fun h76 => ?_) (fun h76 => ?_)
        · have h76 := ax_bne h76
          have h76 : (tkK b N (EE b N (j + 2)) = 2 ∧ tkv b N (EE b N (j + 2)) ≤ 11) := (nu_iff (ca_1_at hr)).mp h76
          rw [rn_S_ok (ca_1_at hr) h76]
          refine ax_aload_0 (pc := 81) C dX4_readCart_81 ?_
          refine ax_getR (pc := 82) C fX4_18 dX4_readCart_82 rfl rfl ?_
          refine ax_getR (pc := 85) C fX4_83 dX4_readCart_85 rfl rfl ?_
          refine ax_iload_1 (pc := 88) C dX4_readCart_88 ?_
          refine ax_aload_0 (pc := 89) C dX4_readCart_89 ?_
          refine ax_getI (pc := 90) C fX4_68 dX4_readCart_90 rfl rfl ?_
          refine ax_val C (rd_go_v (ca_1_at hr) h76.1) ?_
          refine ax_isn (pc := 93) C dX4_readCart_93 rfl (by omega) (by decide) ?_
          refine ax_aload_0 (pc := 94) C dX4_readCart_94 ?_
          refine ax_bipush (pc := 95) (v := 20) C dX4_readCart_95 (by decide) ?_
          refine ax_callVi (pc := 97) C (w_X4_readNumber F (ca_2_at hr).1 h400 (ca_2_at hr).2.1 (EE_le _)) kX4_readNumber mX4_62 dX4_readCart_97 (by decide) rfl rfl rfl rfl rfl (Nat.le_of_ble_eq_true rfl) rfl ⟨Nat.le_refl _, Nat.le_refl _⟩ ?_
          refine ax_if_ne (pc := 100) (tgt := 105) C dX4_readCart_100 (by decide) (fun h100 => ?_) (fun h100 => ?_)
          · have h100 := ax_bne h100
            have h100 : (tkK b N (EE b N (j + 3)) = 2 ∧ tkv b N (EE b N (j + 3)) ≤ 20) := (nu_iff (ca_2_at hr)).mp h100
            rw [rn_S_ok (ca_2_at hr) h100]
            refine ax_aload_0 (pc := 105) C dX4_readCart_105 ?_
            refine ax_getR (pc := 106) C fX4_18 dX4_readCart_106 rfl rfl ?_
            refine ax_getR (pc := 109) C fX4_86 dX4_readCart_109 rfl rfl ?_
            refine ax_iload_1 (pc := 112) C dX4_readCart_112 ?_
            refine ax_aload_0 (pc := 113) C dX4_readCart_113 ?_
            refine ax_getI (pc := 114) C fX4_68 dX4_readCart_114 rfl rfl ?_
            refine ax_val C (rd_go_v (ca_2_at hr) h100.1) ?_
            refine ax_isn (pc := 117) C dX4_readCart_117 rfl (by omega) (by decide) ?_
            refine ax_aload_0 (pc := 118) C dX4_readCart_118 ?_
            refine ax_bipush (pc := 119) (v := 11) C dX4_readCart_119 (by decide) ?_
            refine ax_callVi (pc := 121) C (w_X4_readNumber F (ca_3_at hr).1 h400 (ca_3_at hr).2.1 (EE_le _)) kX4_readNumber mX4_62 dX4_readCart_121 (by decide) rfl rfl rfl rfl rfl (Nat.le_of_ble_eq_true rfl) rfl ⟨Nat.le_refl _, Nat.le_refl _⟩ ?_
            refine ax_if_ne (pc := 124) (tgt := 129) C dX4_readCart_124 (by decide) (fun h124 => ?_) (fun h124 => ?_)
            · have h124 := ax_bne h124
              have h124 : (tkK b N (EE b N (j + 4)) = 2 ∧ tkv b N (EE b N (j + 4)) ≤ 11) := (nu_iff (ca_3_at hr)).mp h124
              rw [rn_S_ok (ca_3_at hr) h124]
              refine ax_aload_0 (pc := 129) C dX4_readCart_129 ?_
              refine ax_getR (pc := 130) C fX4_18 dX4_readCart_130 rfl rfl ?_
              refine ax_getR (pc := 133) C fX4_89 dX4_readCart_133 rfl rfl ?_
              refine ax_iload_1 (pc := 136) C dX4_readCart_136 ?_
              refine ax_aload_0 (pc := 137) C dX4_readCart_137 ?_
              refine ax_getI (pc := 138) C fX4_68 dX4_readCart_138 rfl rfl ?_
              refine ax_val C (rd_go_v (ca_3_at hr) h124.1) ?_
              refine ax_isn (pc := 141) C dX4_readCart_141 rfl (by omega) (by decide) ?_
              refine ax_aload_0 (pc := 142) C dX4_readCart_142 ?_
              refine ax_getR (pc := 143) C fX4_18 dX4_readCart_143 rfl rfl ?_
              refine ax_dup (pc := 146) C dX4_readCart_146 rfl ?_
              refine ax_getI (pc := 147) C fX4_22 dX4_readCart_147 rfl rfl ?_
              refine ax_val C (show ca_4 σ b N j c 4 10 = nI c by unfold ca_4 ca_3 ca_2 ca_1; simp (disch := decide) only [up_ne, rd_go_ne]; exact hc) ?_
              refine ax_iconst (pc := 150) (v := 1) C dX4_readCart_150 (by decide) ?_
              refine ax_iadd (pc := 151) C dX4_readCart_151 ?_
              refine ax_val C (nI_1 c) ?_
              refine ax_putI (pc := 152) C fX4_22 dX4_readCart_152 rfl rfl rfl rfl ?_
              refine ax_aload_0 (pc := 155) C dX4_readCart_155 ?_
              refine ax_callVi (pc := 156) C (w_X4_readSign F (ca_5_at hr).1 h400 (ca_5_at hr).2.1 (EE_le _)) kX4_readSign mX4_71 dX4_readCart_156 (by decide) rfl rfl rfl rfl rfl (Nat.le_of_ble_eq_true rfl) rfl ⟨Nat.le_refl _, Nat.le_refl _⟩ ?_
              exact ax_zr (pc := 159) C rfl (by first | rfl | (unfold ax_b; split <;> rfl)) dX4_readCart_159 (by rw [ca_B, if_pos h6, if_pos h26, if_neg h61, if_pos h76, if_pos h100, if_pos h124, (ca_5_at hr).2.2]; exact ax_bcong (by simp)) (by rw [ca_P, if_pos h6, if_pos h26, if_neg h61, if_pos h76, if_pos h100, if_pos h124])
            · have h124 := ax_beq h124
              have h124 : ¬ (tkK b N (EE b N (j + 4)) = 2 ∧ tkv b N (EE b N (j + 4)) ≤ 11) := fun z => h124 ((nu_iff (ca_3_at hr)).mpr z)
              refine ax_iconst (pc := 127) (v := 0) C dX4_readCart_127 (by decide) ?_
              exact ax_zr (pc := 128) C rfl (by first | rfl | (unfold ax_b; split <;> rfl)) dX4_readCart_128 (ax_b0 (fun z => by rw [ca_B, if_pos h6, if_pos h26, if_neg h61, if_pos h76, if_pos h100, if_neg h124] at z; cases z)) (by rw [ca_P, if_pos h6, if_pos h26, if_neg h61, if_pos h76, if_pos h100, if_neg h124])
          · have h100 := ax_beq h100
            have h100 : ¬ (tkK b N (EE b N (j + 3)) = 2 ∧ tkv b N (EE b N (j + 3)) ≤ 20) := fun z => h100 ((nu_iff (ca_2_at hr)).mpr z)
            refine ax_iconst (pc := 103) (v := 0) C dX4_readCart_103 (by decide) ?_
            exact ax_zr (pc := 104) C rfl (by first | rfl | (unfold ax_b; split <;> rfl)) dX4_readCart_104 (ax_b0 (fun z => by rw [ca_B, if_pos h6, if_pos h26, if_neg h61, if_pos h76, if_neg h100] at z; cases z)) (by rw [ca_P, if_pos h6, if_pos h26, if_neg h61, if_pos h76, if_neg h100])
        · have h76 := ax_beq h76
          have h76 : ¬ (tkK b N (EE b N (j + 2)) = 2 ∧ tkv b N (EE b N (j + 2)) ≤ 11) := fun z => h76 ((nu_iff (ca_1_at hr)).mpr z)
          refine ax_iconst (pc := 79) (v := 0) C dX4_readCart_79 (by decide) ?_
          exact ax_zr (pc := 80) C rfl (by first | rfl | (unfold ax_b; split <;> rfl)) dX4_readCart_80 (ax_b0 (fun z => by rw [ca_B, if_pos h6, if_pos h26, if_neg h61, if_neg h76] at z; cases z)) (by rw [ca_P, if_pos h6, if_pos h26, if_neg h61, if_neg h76])
      · have h61 : kd_t b N (j + 1) = 0 := (nI_eq (b := 0) (Nat.lt_trans kd_t_lt (by decide)) (by decide)).mp h61
        refine ax_aload_0 (pc := 64) C dX4_readCart_64 ?_
        refine ax_iconst (pc := 65) (v := 1) C dX4_readCart_65 (by decide) ?_
        refine ax_callVi (pc := 66) C (w_X4_fail F) kX4_fail mX4_58 dX4_readCart_66 (by decide) rfl rfl rfl rfl rfl (Nat.le_of_ble_eq_true rfl) rfl ⟨Nat.le_refl _, Nat.le_refl _⟩ ?_
        exact ax_zr (pc := 69) C rfl (by first | rfl | (unfold ax_b; split <;> rfl)) dX4_readCart_69 (ax_b0 (fun z => by rw [ca_B, if_pos h6, if_pos h26, if_pos h61] at z; cases z)) (by rw [ca_P, if_pos h6, if_pos h26, if_pos h61]; rfl)
    · have h26 : ¬ c < 6 := fun z => h26 (nI_lt (b := 6) z (by decide))
      refine ax_aload_0 (pc := 29) C dX4_readCart_29 ?_
      refine ax_iconst (pc := 30) (v := 3) C dX4_readCart_30 (by decide) ?_
      refine ax_callVi (pc := 31) C (w_X4_fail F) kX4_fail mX4_58 dX4_readCart_31 (by decide) rfl rfl rfl rfl rfl (Nat.le_of_ble_eq_true rfl) rfl ⟨Nat.le_refl _, Nat.le_refl _⟩ ?_
      exact ax_zr (pc := 34) C rfl (by first | rfl | (unfold ax_b; split <;> rfl)) dX4_readCart_34 (ax_b0 (fun z => by rw [ca_B, if_pos h6, if_neg h26] at z; cases z)) (by rw [ca_P, if_pos h6, if_neg h26])
  · have h6 := ax_beq h6
    rw [hr.2.2] at h6
    have h6 : ¬ wd_t b N j 1 = true := fun z => h6 (wd_t_iff.mpr z)
    refine ax_aload_0 (pc := 9) C dX4_readCart_9 ?_
    refine ax_iconst (pc := 10) (v := 1) C dX4_readCart_10 (by decide) ?_
    refine ax_callVi (pc := 11) C (w_X4_fail F) kX4_fail mX4_58 dX4_readCart_11 (by decide) rfl rfl rfl rfl rfl (Nat.le_of_ble_eq_true rfl) rfl ⟨Nat.le_refl _, Nat.le_refl _⟩ ?_
    exact ax_zr (pc := 14) C rfl (by first | rfl | (unfold ax_b; split <;> rfl)) dX4_readCart_14 (ax_b0 (fun z => by rw [ca_B, if_neg h6] at z; cases z)) (by rw [ca_P, if_neg h6])
