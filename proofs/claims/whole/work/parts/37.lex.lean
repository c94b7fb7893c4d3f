/-! tokens of a tape: b its bytes, N how many -/
def lx_r (f : Nat → Bool) (N : Nat) : Nat → Nat → Nat
  | 0, p => p
  | q + 1, p => if p < N ∧ f p = true then lx_r f N q (p + 1) else p
/-- the first place from p on where f doesn't hold -/
def LX (f : Nat → Bool) (N p : Nat) : Nat := lx_r f N (N - p) p
theorem LX_s {f : Nat → Bool} {N p : Nat} (h : p < N) (hf : f p = true) : LX f N p = LX f N (p + 1) := by
  unfold LX
  obtain ⟨q, hq⟩ : ∃ q, N - p = q + 1 := ⟨N - p - 1, by omega⟩
  rw [hq, show N - (p + 1) = q by omega, lx_r, if_pos ⟨h, hf⟩]
theorem LX_e {f : Nat → Bool} {N p : Nat} (h : ¬ (p < N ∧ f p = true)) : LX f N p = p := by
  unfold LX
  cases N - p with
  | zero => rfl
  | succ q => rw [lx_r, if_neg h]
theorem lx_r_le {f : Nat → Bool} {N : Nat} : ∀ (q p : Nat), p ≤ lx_r f N q p ∧ (p ≤ N → lx_r f N q p ≤ N) := by
  intro q
  induction q with
  | zero => intro p; exact ⟨Nat.le_refl p, fun h => h⟩
  | succ q ih =>
    intro p
    unfold lx_r
    split
    · next h =>
      obtain ⟨i1, i2⟩ := ih (p + 1)
      exact ⟨by omega, fun _ => i2 (by omega)⟩
    · exact ⟨Nat.le_refl p, fun h => h⟩
theorem LX_ge {f : Nat → Bool} {N p : Nat} : p ≤ LX f N p := (lx_r_le _ _).1
theorem LX_le {f : Nat → Bool} {N p : Nat} (h : p ≤ N) : LX f N p ≤ N := (lx_r_le _ _).2 h
def isW (b : Nat → Int32) (i : Nat) : Bool := decide (b i = 32) || decide (b i = 10)
def isL (b : Nat → Int32) (i : Nat) : Bool := decide (97 ≤ b i) && decide (b i ≤ 122)
def isF (b : Nat → Int32) (i : Nat) : Bool := decide (48 ≤ b i) && decide (b i ≤ 57)
/-- what the first m figures from s on are worth (three at most are read) -/
def lx_v (b : Nat → Int32) (s : Nat) : Nat → Int32
  | 0 => 0
  | m + 1 => if m < 3 then 10 * lx_v b s m + b (s + m) - 48 else lx_v b s m
def tkS (b : Nat → Int32) (N e : Nat) : Nat := LX (isW b) N e
/-- the token behind e: 0 the end, 1 a name, 2 a number, 3 the sign, 4 none -/
def tkK (b : Nat → Int32) (N e : Nat) : Nat := if N ≤ tkS b N e then 0 else if isL b (tkS b N e) = true then 1 else if isF b (tkS b N e) = true then (if LX (isF b) N (tkS b N e) - tkS b N e ≤ 3 then 2 else 4) else if b (tkS b N e) = 59 then 3 else 4
def tkE (b : Nat → Int32) (N e : Nat) : Nat := if N ≤ tkS b N e then tkS b N e else if isL b (tkS b N e) = true then LX (isL b) N (tkS b N e) else if isF b (tkS b N e) = true then LX (isF b) N (tkS b N e) else tkS b N e + 1
def tkV (b : Nat → Int32) (N e : Nat) (v : Int32) : Int32 := if N ≤ tkS b N e then v else if isL b (tkS b N e) = true then v else if isF b (tkS b N e) = true then lx_v b (tkS b N e) (LX (isF b) N (tkS b N e) - tkS b N e) else v
theorem tkE_le {b : Nat → Int32} {N e : Nat} (h : e ≤ N) : tkS b N e ≤ tkE b N e ∧ tkE b N e ≤ N := by
  have h1 : tkS b N e ≤ N := LX_le h
  unfold tkE
  split
  · exact ⟨Nat.le_refl _, h1⟩
  · split
    · exact ⟨LX_ge, LX_le h1⟩
    · split
      · exact ⟨LX_ge, LX_le h1⟩
      · omega
/-- the reader behind a step -/
def rd_st (σ : ax_Z) (s e k : Nat) (v : Int32) : ax_Z := ax_up (ax_up (ax_up (ax_up σ 2 4 (nI s)) 2 5 (nI e)) 2 3 (nI k)) 2 6 v
def rd_go (σ : ax_Z) (N e : Nat) : ax_Z := rd_st σ (tkS (σ 3) N e) (tkE (σ 3) N e) (tkK (σ 3) N e) (tkV (σ 3) N e (σ 2 6))
theorem rd_st_ne {σ : ax_Z} {s e k a : Nat} {v : Int32} (h : a ≠ 2) : rd_st σ s e k v a = σ a := by
  unfold rd_st
  simp (disch := omega) only [up_ne]
theorem rd_go_ne {σ : ax_Z} {N e a : Nat} (h : a ≠ 2) : rd_go σ N e a = σ a := rd_st_ne h
theorem rd_st_1 {σ : ax_Z} {s e k : Nat} {v : Int32} : rd_st σ s e k v 2 1 = σ 2 1 := by
  unfold rd_st
  simp (disch := decide) only [up_o]
theorem rd_st_7 {σ : ax_Z} {s e k : Nat} {v : Int32} : rd_st σ s e k v 2 7 = σ 2 7 := by
  unfold rd_st
  simp (disch := decide) only [up_o]
theorem rd_st_3 {σ : ax_Z} {s e k : Nat} {v : Int32} : rd_st σ s e k v 2 3 = nI k := by
  unfold rd_st
  rw [up_o (by decide), up_s]
theorem rd_st_4 {σ : ax_Z} {s e k : Nat} {v : Int32} : rd_st σ s e k v 2 4 = nI s := by
  unfold rd_st
  rw [up_o (by decide), up_o (by decide), up_o (by decide), up_s]
theorem rd_st_5 {σ : ax_Z} {s e k : Nat} {v : Int32} : rd_st σ s e k v 2 5 = nI e := by
  unfold rd_st
  rw [up_o (by decide), up_o (by decide), up_s]
theorem rd_st_6 {σ : ax_Z} {s e k : Nat} {v : Int32} : rd_st σ s e k v 2 6 = v := by
  unfold rd_st
  rw [up_s]

set_option maxRecDepth 20000 in
set_option maxHeartbeats 4000000 in
theorem w_X4_isLetter {Y : ax_Y} {ad : Nat → Nat} (F : ax_F Y) {l : Launch} {σ : ax_Z} {c : Nat} (hc : c < 400) : ax_m Y ad l iX4_isLetter 0 σ [.ref (ad 2), .int (nI c)] (some (.int (ax_b (isL (σ 3) c = true)))) σ := by
  refine ax_m.of F kX4_isLetter.1 [some (.ref (ad 2)), some (.int (nI c))] rfl (Nat.le_of_ble_eq_true rfl) (fun x C => ?_)
  refine ax_aload_0 (pc := 0) C dX4_isLetter_0 ?_
  refine ax_getR (pc := 1) C fX4_9 dX4_isLetter_1 rfl rfl ?_
  refine ax_iload_1 (pc := 4) C dX4_isLetter_4 ?_
  refine ax_bal (pc := 5) C dX4_isLetter_5 rfl hc (by decide) ?_
  refine ax_bipush (pc := 6) (v := 97) C dX4_isLetter_6 (by decide) ?_
  refine ax_icmp_lt (pc := 8) (tgt := 26) C dX4_isLetter_8 (by decide) (fun h8 => ?_) (fun h8 => ?_)
  · refine ax_iconst (pc := 26) (v := 0) C dX4_isLetter_26 (by decide) ?_
    exact ax_zr (pc := 27) C rfl rfl dX4_isLetter_27 (by simp_all [isL, ax_b, ← Int32.not_lt]) rfl
  · refine ax_aload_0 (pc := 11) C dX4_isLetter_11 ?_
    refine ax_getR (pc := 12) C fX4_9 dX4_isLetter_12 rfl rfl ?_
    refine ax_iload_1 (pc := 15) C dX4_isLetter_15 ?_
    refine ax_bal (pc := 16) C dX4_isLetter_16 rfl hc (by decide) ?_
    refine ax_bipush (pc := 17) (v := 122) C dX4_isLetter_17 (by decide) ?_
    refine ax_icmp_gt (pc := 19) (tgt := 26) C dX4_isLetter_19 (by decide) (fun h19 => ?_) (fun h19 => ?_)
    · refine ax_iconst (pc := 26) (v := 0) C dX4_isLetter_26 (by decide) ?_
      exact ax_zr (pc := 27) C rfl rfl dX4_isLetter_27 (by simp_all [isL, ax_b, ← Int32.not_lt]) rfl
    · refine ax_iconst (pc := 22) (v := 1) C dX4_isLetter_22 (by decide) ?_
      refine ax_goto (pc := 23) (tgt := 27) C dX4_isLetter_23 (by decide) ?_
      exact ax_zr (pc := 27) C rfl rfl dX4_isLetter_27 (by simp_all [isL, ax_b, ← Int32.not_lt]) rfl

set_option maxRecDepth 20000 in
set_option maxHeartbeats 4000000 in
theorem w_X4_isFigure {Y : ax_Y} {ad : Nat → Nat} (F : ax_F Y) {l : Launch} {σ : ax_Z} {c : Nat} (hc : c < 400) : ax_m Y ad l iX4_isFigure 0 σ [.ref (ad 2), .int (nI c)] (some (.int (ax_b (isF (σ 3) c = true)))) σ := by
  refine ax_m.of F kX4_isFigure.1 [some (.ref (ad 2)), some (.int (nI c))] rfl (Nat.le_of_ble_eq_true rfl) (fun x C => ?_)
  refine ax_aload_0 (pc := 0) C dX4_isFigure_0 ?_
  refine ax_getR (pc := 1) C fX4_9 dX4_isFigure_1 rfl rfl ?_
  refine ax_iload_1 (pc := 4) C dX4_isFigure_4 ?_
  refine ax_bal (pc := 5) C dX4_isFigure_5 rfl hc (by decide) ?_
  refine ax_bipush (pc := 6) (v := 48) C dX4_isFigure_6 (by decide) ?_
  refine ax_icmp_lt (pc := 8) (tgt := 26) C dX4_isFigure_8 (by decide) (fun h8 => ?_) (fun h8 => ?_)
  · refine ax_iconst (pc := 26) (v := 0) C dX4_isFigure_26 (by decide) ?_
    exact ax_zr (pc := 27) C rfl rfl dX4_isFigure_27 (by simp_all [isF, ax_b, ← Int32.not_lt]) rfl
  · refine ax_aload_0 (pc := 11) C dX4_isFigure_11 ?_
    refine ax_getR (pc := 12) C fX4_9 dX4_isFigure_12 rfl rfl ?_
    refine ax_iload_1 (pc := 15) C dX4_isFigure_15 ?_
    refine ax_bal (pc := 16) C dX4_isFigure_16 rfl hc (by decide) ?_
    refine ax_bipush (pc := 17) (v := 57) C dX4_isFigure_17 (by decide) ?_
    refine ax_icmp_gt (pc := 19) (tgt := 26) C dX4_isFigure_19 (by decide) (fun h19 => ?_) (fun h19 => ?_)
    · refine ax_iconst (pc := 26) (v := 0) C dX4_isFigure_26 (by decide) ?_
      exact ax_zr (pc := 27) C rfl rfl dX4_isFigure_27 (by simp_all [isF, ax_b, ← Int32.not_lt]) rfl
    · refine ax_iconst (pc := 22) (v := 1) C dX4_isFigure_22 (by decide) ?_
      refine ax_goto (pc := 23) (tgt := 27) C dX4_isFigure_23 (by decide) ?_
      exact ax_zr (pc := 27) C rfl rfl dX4_isFigure_27 (by simp_all [isF, ax_b, ← Int32.not_lt]) rfl

set_option maxRecDepth 20000 in
set_option maxHeartbeats 4000000 in
theorem w_X4_stepName {Y : ax_Y} {ad : Nat → Nat} (F : ax_F Y) {l : Launch} {σ : ax_Z} {N : Nat} (hN : σ 2 1 = nI N) (h400 : N ≤ 400) {p : Nat} (hp : σ 2 5 = nI p) (hpN : p ≤ N) : ax_m Y ad l iX4_stepName 1 σ [.ref (ad 2)] none (ax_up (ax_up σ 2 5 (nI (LX (isL (σ 3)) N p))) 2 3 1) := by
  refine ax_m.of F kX4_stepName.1 [some (.ref (ad 2))] rfl (Nat.le_of_ble_eq_true rfl) (fun x C => ?_)
  have loop : ∀ (q : Nat) (q0 : Nat) (τ : ax_Z), τ = ax_up σ 2 5 (nI q0) → q0 ≤ N → LX (isL (σ 3)) N q0 = (LX (isL (σ 3)) N p) → N < q0 + q → ax_S x Y ad 0 0 (ax_Q x Y ad none 96 (ax_g Y ad (ax_up (ax_up σ 2 5 (nI (LX (isL (σ 3)) N p))) 2 3 1)) 0 0) τ 0 [some (.ref (ad 2))] [] := by
    intro q
    induction q with
    | zero => intro q0 τ e h1 hT h2; exfalso; omega
    | succ q ih =>
      intro q0 τ e h1 hT h2
      have e5 : τ 2 5 = nI q0 := by rw [e, up_s]
      have e1 : τ 2 1 = nI N := by rw [e, up_o (by decide)]; exact hN
      have e3 : τ 3 = σ 3 := by rw [e, up_ne (by decide)]
      refine ax_aload_0 (pc := 0) C dX4_stepName_0 ?_
      refine ax_getI (pc := 1) C fX4_30 dX4_stepName_1 rfl rfl ?_
      refine ax_val C e5 ?_
      refine ax_aload_0 (pc := 4) C dX4_stepName_4 ?_
      refine ax_getI (pc := 5) C fX4_105 dX4_stepName_5 rfl rfl ?_
      refine ax_val C e1 ?_
      refine ax_icmp_ge (pc := 8) (tgt := 35) C dX4_stepName_8 (by decide) (fun h8 => ?_) (fun h8 => ?_)
      · have hq : ¬ q0 < N := fun z => nI_ge z (by omega) h8
        refine ax_aload_0 (pc := 35) C dX4_stepName_35 ?_
        refine ax_iconst (pc := 36) (v := 1) C dX4_stepName_36 (by decide) ?_
        refine ax_putI (pc := 37) C fX4_43 dX4_stepName_37 rfl rfl rfl rfl ?_
        exact ax_vr (pc := 40) C rfl dX4_stepName_40 (by rw [e, ← hT, LX_e (fun z => hq z.1)])
      · have hq : q0 < N := Nat.lt_of_not_le (fun z => h8 (nI_le z (by omega)))
        refine ax_aload_0 (pc := 11) C dX4_stepName_11 ?_
        refine ax_aload_0 (pc := 12) C dX4_stepName_12 ?_
        refine ax_getI (pc := 13) C fX4_30 dX4_stepName_13 rfl rfl ?_
        refine ax_val C e5 ?_
        refine ax_callVi (pc := 16) C (w_X4_isLetter F (c := q0) (by omega)) kX4_isLetter mX4_108 dX4_stepName_16 (by decide) rfl rfl rfl rfl rfl (Nat.le_of_ble_eq_true rfl) rfl ⟨Nat.le_refl _, Nat.le_refl _⟩ ?_
        refine ax_if_eq (pc := 19) (tgt := 35) C dX4_stepName_19 (by decide) (fun h19 => ?_) (fun h19 => ?_)
        · have h19 := ax_beq h19
          rw [e3] at h19
          refine ax_aload_0 (pc := 35) C dX4_stepName_35 ?_
          refine ax_iconst (pc := 36) (v := 1) C dX4_stepName_36 (by decide) ?_
          refine ax_putI (pc := 37) C fX4_43 dX4_stepName_37 rfl rfl rfl rfl ?_
          exact ax_vr (pc := 40) C rfl dX4_stepName_40 (by rw [e, ← hT, LX_e (fun z => h19 z.2)])
        · have h19 := ax_bne h19
          rw [e3] at h19
          refine ax_aload_0 (pc := 22) C dX4_stepName_22 ?_
          refine ax_dup (pc := 23) C dX4_stepName_23 rfl ?_
          refine ax_getI (pc := 24) C fX4_30 dX4_stepName_24 rfl rfl ?_
          refine ax_iconst (pc := 27) (v := 1) C dX4_stepName_27 (by decide) ?_
          refine ax_iadd (pc := 28) C dX4_stepName_28 ?_
          refine ax_val C (show _ = nI (q0 + 1) by rw [e5, nI_1]) ?_
          refine ax_putI (pc := 29) C fX4_30 dX4_stepName_29 rfl rfl rfl rfl ?_
          refine ax_goto (pc := 32) (tgt := 0) C dX4_stepName_32 (by decide) ?_
          refine ax_Seq (by rw [e, up_up]) (ih (q0 + 1) _ rfl (by omega) (by rw [← hT, LX_s hq h19]) (by omega))
  exact loop (N + 1) p σ (up_id hp).symm hpN rfl (by omega)

theorem rd_c1 {σ : ax_Z} {v w : Int32} {a b : Int32} : ax_up (ax_up (ax_up (ax_up σ 2 6 v) 2 5 a) 2 6 w) 2 5 b = ax_up (ax_up σ 2 6 w) 2 5 b := by
  funext x y
  simp only [ax_up]
  by_cases h : x = 2
  · by_cases h5 : y = 5
    · simp [h, h5]
    · by_cases h6 : y = 6
      · simp [h, h6]
      · simp [h5, h6]
  · simp [h]
theorem rd_c2 {σ : ax_Z} {v : Int32} {a b : Int32} : ax_up (ax_up (ax_up σ 2 6 v) 2 5 a) 2 5 b = ax_up (ax_up σ 2 6 v) 2 5 b := up_up
set_option maxRecDepth 20000 in
set_option maxHeartbeats 4000000 in
theorem w_X4_stepNumber {Y : ax_Y} {ad : Nat → Nat} (F : ax_F Y) {l : Launch} {σ : ax_Z} {N : Nat} (hN : σ 2 1 = nI N) (h400 : N ≤ 400) {s : Nat} (hs : σ 2 4 = nI s) (hp : σ 2 5 = nI s) (hsN : s ≤ N) : ax_m Y ad l iX4_stepNumber 1 σ [.ref (ad 2)] none (ax_up (ax_up (ax_up σ 2 6 (lx_v (σ 3) s ((LX (isF (σ 3)) N s) - s))) 2 5 (nI (LX (isF (σ 3)) N s))) 2 3 (nI (if (LX (isF (σ 3)) N s) - s ≤ 3 then 2 else 4))) := by
  refine ax_m.of F kX4_stepNumber.1 [some (.ref (ad 2))] rfl (Nat.le_of_ble_eq_true rfl) (fun x C => ?_)
  have loop : ∀ (q : Nat) (m : Nat) (τ : ax_Z), τ = (ax_up (ax_up σ 2 6 (lx_v (σ 3) s m)) 2 5 (nI (s + m))) → s + m ≤ N → LX (isF (σ 3)) N (s + m) = (LX (isF (σ 3)) N s) → N < s + m + q → ax_S x Y ad 0 0 (ax_Q x Y ad none 96 (ax_g Y ad (ax_up (ax_up (ax_up σ 2 6 (lx_v (σ 3) s ((LX (isF (σ 3)) N s) - s))) 2 5 (nI (LX (isF (σ 3)) N s))) 2 3 (nI (if (LX (isF (σ 3)) N s) - s ≤ 3 then 2 else 4)))) 0 0) τ 5 [some (.ref (ad 2))] [] := by
    intro q
    induction q with
    | zero => intro m τ e h1 hT h2; exfalso; omega
    | succ q ih =>
      intro m τ e h1 hT h2
      have e5 : τ 2 5 = nI (s + m) := by rw [e, up_s]
      have e1 : τ 2 1 = nI N := by rw [e, up_o (by decide), up_o (by decide)]; exact hN
      have e4 : τ 2 4 = nI s := by rw [e, up_o (by decide), up_o (by decide)]; exact hs
      have e6 : τ 2 6 = lx_v (σ 3) s m := by rw [e, up_o (by decide), up_s]
      have e3 : τ 3 = σ 3 := by rw [e, up_ne (by decide), up_ne (by decide)]
      refine ax_aload_0 (pc := 5) C dX4_stepNumber_5 ?_
      refine ax_getI (pc := 6) C fX4_30 dX4_stepNumber_6 rfl rfl ?_
      refine ax_val C e5 ?_
      refine ax_aload_0 (pc := 9) C dX4_stepNumber_9 ?_
      refine ax_getI (pc := 10) C fX4_105 dX4_stepNumber_10 rfl rfl ?_
      refine ax_val C e1 ?_
      refine ax_icmp_ge (pc := 13) (tgt := 77) C dX4_stepNumber_13 (by decide) (fun h13 => ?_) (fun h13 => ?_)
      · have hq : ¬ s + m < N := fun z => nI_ge z (by omega) h13
        refine ax_aload_0 (pc := 77) C dX4_stepNumber_77 ?_
        refine ax_aload_0 (pc := 78) C dX4_stepNumber_78 ?_
        refine ax_getI (pc := 79) C fX4_30 dX4_stepNumber_79 rfl rfl ?_
        refine ax_val C e5 ?_
        refine ax_aload_0 (pc := 82) C dX4_stepNumber_82 ?_
        refine ax_getI (pc := 83) C fX4_102 dX4_stepNumber_83 rfl rfl ?_
        refine ax_val C e4 ?_
        refine ax_isub (pc := 86) C dX4_stepNumber_86 ?_
        refine ax_val C (show _ = nI m by rw [pk_sub (by omega), Nat.add_sub_cancel_left]) ?_
        refine ax_iconst (pc := 87) (v := 3) C dX4_stepNumber_87 (by decide) ?_
        refine ax_icmp_gt (pc := 88) (tgt := 95) C dX4_stepNumber_88 (by decide) (fun h88 => ?_) (fun h88 => ?_)
        · refine ax_iconst (pc := 95) (v := 4) C dX4_stepNumber_95 (by decide) ?_
          refine ax_putI (pc := 96) C fX4_43 dX4_stepNumber_96 rfl rfl rfl rfl ?_
          exact ax_vr (pc := 99) C rfl dX4_stepNumber_99 (by
              have hTm : s + m = (LX (isF (σ 3)) N s) := by rw [← hT, LX_e (fun z => hq z.1)]
              rw [← hTm, Nat.add_sub_cancel_left, e, if_neg (by intro z; exact nI_nlt (a := 3) (b := m) z (by omega) h88)]; rfl)
        · refine ax_iconst (pc := 91) (v := 2) C dX4_stepNumber_91 (by decide) ?_
          refine ax_goto (pc := 92) (tgt := 96) C dX4_stepNumber_92 (by decide) ?_
          refine ax_putI (pc := 96) C fX4_43 dX4_stepNumber_96 rfl rfl rfl rfl ?_
          exact ax_vr (pc := 99) C rfl dX4_stepNumber_99 (by
              have hTm : s + m = (LX (isF (σ 3)) N s) := by rw [← hT, LX_e (fun z => hq z.1)]
              rw [← hTm, Nat.add_sub_cancel_left, e, if_pos (by exact Nat.le_of_not_lt (fun z => h88 (nI_lt (a := 3) z (by omega))))]; rfl)
      · have hq : s + m < N := Nat.lt_of_not_le (fun z => h13 (nI_le z (by omega)))
        refine ax_aload_0 (pc := 16) C dX4_stepNumber_16 ?_
        refine ax_aload_0 (pc := 17) C dX4_stepNumber_17 ?_
        refine ax_getI (pc := 18) C fX4_30 dX4_stepNumber_18 rfl rfl ?_
        refine ax_val C e5 ?_
        refine ax_callVi (pc := 21) C (w_X4_isFigure F (c := s + m) (by omega)) kX4_isFigure mX4_114 dX4_stepNumber_21 (by decide) rfl rfl rfl rfl rfl (Nat.le_of_ble_eq_true rfl) rfl ⟨Nat.le_refl _, Nat.le_refl _⟩ ?_
        refine ax_if_eq (pc := 24) (tgt := 77) C dX4_stepNumber_24 (by decide) (fun h24 => ?_) (fun h24 => ?_)
        · have h24 := ax_beq h24
          rw [e3] at h24
          refine ax_aload_0 (pc := 77) C dX4_stepNumber_77 ?_
          refine ax_aload_0 (pc := 78) C dX4_stepNumber_78 ?_
          refine ax_getI (pc := 79) C fX4_30 dX4_stepNumber_79 rfl rfl ?_
          refine ax_val C e5 ?_
          refine ax_aload_0 (pc := 82) C dX4_stepNumber_82 ?_
          refine ax_getI (pc := 83) C fX4_102 dX4_stepNumber_83 rfl rfl ?_
          refine ax_val C e4 ?_
          refine ax_isub (pc := 86) C dX4_stepNumber_86 ?_
          refine ax_val C (show _ = nI m by rw [pk_sub (by omega), Nat.add_sub_cancel_left]) ?_
          refine ax_iconst (pc := 87) (v := 3) C dX4_stepNumber_87 (by decide) ?_
          refine ax_icmp_gt (pc := 88) (tgt := 95) C dX4_stepNumber_88 (by decide) (fun h88 => ?_) (fun h88 => ?_)
          · refine ax_iconst (pc := 95) (v := 4) C dX4_stepNumber_95 (by decide) ?_
            refine ax_putI (pc := 96) C fX4_43 dX4_stepNumber_96 rfl rfl rfl rfl ?_
            exact ax_vr (pc := 99) C rfl dX4_stepNumber_99 (by
                have hTm : s + m = (LX (isF (σ 3)) N s) := by rw [← hT, LX_e (fun z => h24 z.2)]
                rw [← hTm, Nat.add_sub_cancel_left, e, if_neg (by intro z; exact nI_nlt (a := 3) (b := m) z (by omega) h88)]; rfl)
          · refine ax_iconst (pc := 91) (v := 2) C dX4_stepNumber_91 (by decide) ?_
            refine ax_goto (pc := 92) (tgt := 96) C dX4_stepNumber_92 (by decide) ?_
            refine ax_putI (pc := 96) C fX4_43 dX4_stepNumber_96 rfl rfl rfl rfl ?_
            exact ax_vr (pc := 99) C rfl dX4_stepNumber_99 (by
                have hTm : s + m = (LX (isF (σ 3)) N s) := by rw [← hT, LX_e (fun z => h24 z.2)]
                rw [← hTm, Nat.add_sub_cancel_left, e, if_pos (by exact Nat.le_of_not_lt (fun z => h88 (nI_lt (a := 3) z (by omega))))]; rfl)
        · have h24 := ax_bne h24
          rw [e3] at h24
          refine ax_aload_0 (pc := 27) C dX4_stepNumber_27 ?_
          refine ax_getI (pc := 28) C fX4_30 dX4_stepNumber_28 rfl rfl ?_
          refine ax_val C e5 ?_
          refine ax_aload_0 (pc := 31) C dX4_stepNumber_31 ?_
          refine ax_getI (pc := 32) C fX4_102 dX4_stepNumber_32 rfl rfl ?_
          refine ax_val C e4 ?_
          refine ax_isub (pc := 35) C dX4_stepNumber_35 ?_
          refine ax_val C (show _ = nI m by rw [pk_sub (by omega), Nat.add_sub_cancel_left]) ?_
          refine ax_iconst (pc := 36) (v := 3) C dX4_stepNumber_36 (by decide) ?_
          refine ax_icmp_ge (pc := 37) (tgt := 64) C dX4_stepNumber_37 (by decide) (fun h37 => ?_) (fun h37 => ?_)
          · have hm3 : ¬ m < 3 := fun z => nI_ge (a := m) (b := 3) z (by decide) h37
            refine ax_aload_0 (pc := 64) C dX4_stepNumber_64 ?_
            refine ax_dup (pc := 65) C dX4_stepNumber_65 rfl ?_
            refine ax_getI (pc := 66) C fX4_30 dX4_stepNumber_66 rfl rfl ?_
            refine ax_val C (show _ = nI (s + m) by first | exact e5 | (rw [up_o (by decide)]; exact e5)) ?_
            refine ax_iconst (pc := 69) (v := 1) C dX4_stepNumber_69 (by decide) ?_
            refine ax_iadd (pc := 70) C dX4_stepNumber_70 ?_
            refine ax_putI (pc := 71) C fX4_30 dX4_stepNumber_71 rfl rfl rfl rfl ?_
            refine ax_goto (pc := 74) (tgt := 5) C dX4_stepNumber_74 (by decide) ?_
            refine ax_Seq ?_ (ih (m + 1) _ rfl (by omega) (by rw [← hT, LX_s hq h24]; rfl) (by omega))
            rw [e, lx_v, if_neg hm3, nI_1]
            exact rd_c2
          · have hm3 : m < 3 := Nat.lt_of_not_le (fun z => h37 (nI_le (a := 3) z (by omega)))
            refine ax_aload_0 (pc := 40) C dX4_stepNumber_40 ?_
            refine ax_bipush (pc := 41) (v := 10) C dX4_stepNumber_41 (by decide) ?_
            refine ax_aload_0 (pc := 43) C dX4_stepNumber_43 ?_
            refine ax_getI (pc := 44) C fX4_68 dX4_stepNumber_44 rfl rfl ?_
            refine ax_val C e6 ?_
            refine ax_imul (pc := 47) C dX4_stepNumber_47 ?_
            refine ax_aload_0 (pc := 48) C dX4_stepNumber_48 ?_
            refine ax_getR (pc := 49) C fX4_9 dX4_stepNumber_49 rfl rfl ?_
            refine ax_aload_0 (pc := 52) C dX4_stepNumber_52 ?_
            refine ax_getI (pc := 53) C fX4_30 dX4_stepNumber_53 rfl rfl ?_
            refine ax_val C e5 ?_
            refine ax_bal (pc := 56) C dX4_stepNumber_56 rfl (by omega) (by decide) ?_
            refine ax_val C (congrFun e3 _) ?_
            refine ax_iadd (pc := 57) C dX4_stepNumber_57 ?_
            refine ax_bipush (pc := 58) (v := 48) C dX4_stepNumber_58 (by decide) ?_
            refine ax_isub (pc := 60) C dX4_stepNumber_60 ?_
            refine ax_putI (pc := 61) C fX4_68 dX4_stepNumber_61 rfl rfl rfl rfl ?_
            refine ax_aload_0 (pc := 64) C dX4_stepNumber_64 ?_
            refine ax_dup (pc := 65) C dX4_stepNumber_65 rfl ?_
            refine ax_getI (pc := 66) C fX4_30 dX4_stepNumber_66 rfl rfl ?_
            refine ax_val C (show _ = nI (s + m) by first | exact e5 | (rw [up_o (by decide)]; exact e5)) ?_
            refine ax_iconst (pc := 69) (v := 1) C dX4_stepNumber_69 (by decide) ?_
            refine ax_iadd (pc := 70) C dX4_stepNumber_70 ?_
            refine ax_putI (pc := 71) C fX4_30 dX4_stepNumber_71 rfl rfl rfl rfl ?_
            refine ax_goto (pc := 74) (tgt := 5) C dX4_stepNumber_74 (by decide) ?_
            refine ax_Seq ?_ (ih (m + 1) _ rfl (by omega) (by rw [← hT, LX_s hq h24]; rfl) (by omega))
            rw [e, lx_v, if_pos hm3, nI_1]
            exact rd_c1
  refine ax_aload_0 (pc := 0) C dX4_stepNumber_0 ?_
  refine ax_iconst (pc := 1) (v := 0) C dX4_stepNumber_1 (by decide) ?_
  refine ax_putI (pc := 2) C fX4_68 dX4_stepNumber_2 rfl rfl rfl rfl ?_
  exact loop (N + 1) 0 _ (by rw [Nat.add_zero]; exact (up_id (by rw [up_o (by decide)]; exact hp)).symm) (by omega) rfl (by omega)
