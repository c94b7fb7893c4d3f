def ax_fr (lo hi : Nat) (σ τ : ax_Z) : Prop := ∀ a, (a < lo ∨ hi ≤ a) → τ a = σ a
theorem ax_fr.rf {lo hi : Nat} {σ : ax_Z} : ax_fr lo hi σ σ := fun _ _ => rfl
theorem ax_fr.tr {lo hi : Nat} {σ τ υ : ax_Z} (h1 : ax_fr lo hi σ τ) (h2 : ax_fr lo hi τ υ) : ax_fr lo hi σ υ := fun a h => (h2 a h).trans (h1 a h)
theorem upd_upd {f : Nat → Int32} {k : Nat} {v w : Int32} : upd (upd f k v) k w = upd f k w := by
  funext b
  unfold upd
  split <;> rfl
def tb_K (K : dC) (c : Nat) (v : Int32) : dC := (K.1, dC.kind K, dC.come K, upd (dC.pat K) c v, dC.tm K, dC.toll K)
/-- a cart's cost of a day -/
def dd_x (K : dC) (haste : Nat → Int32) (c : Nat) : Int32 := if DW K c = -1000000 then -1000000 else haste c * (DW K c - dC.come K c) + DP K c
def bk_f (cost : Nat → Int32) : Nat → Nat × Int32
  | 0 => (0, 1000000)
  | m + 1 => if cost m < (bk_f cost m).2 then (m, cost m) else bk_f cost m
theorem bk_f_lt (cost : Nat → Int32) (m : Nat) : (bk_f cost m).1 ≤ m := by
  induction m with
  | zero => exact Nat.le_refl 0
  | succ m ih =>
    unfold bk_f
    split
    · exact Nat.le_succ m
    · omega
/-- the best patience -/
def dd_B (haste : Nat → Int32) (K : dC) (c : Nat) : Nat := (bk_f (fun m => dd_x (tb_K K c (nI m)) haste c) 12).1
/-- the days by which the best patience of cart c is sought -/
def tb_it (τ : ax_Z) (n c : Nat) : Nat → ax_Z
  | 0 => τ
  | m + 1 => hp_dy (ax_up (tb_it τ n c m) 34 c (nI m)) 29 n
def tb_S (τ : ax_Z) (n c : Nat) : ax_Z := ax_up (tb_it τ n c 12) 34 c (nI (dd_B (τ 33) (hp_K τ 29 n) c))
theorem tb_up {τ : ax_Z} {n c : Nat} {v : Int32} : hp_K (ax_up τ 34 c v) 29 n = tb_K (hp_K τ 29 n) c v := by
  show (n, ax_up τ 34 c v 31, ax_up τ 34 c v 32, ax_up τ 34 c v 34, ax_up τ 34 c v 37, ax_up τ 34 c v 30) = _
  simp (disch := omega) only [up_ne, ax_row]
  rfl
theorem hp_K_dy {τ : ax_Z} {n : Nat} : hp_K (hp_dy τ 29 n) 29 n = hp_K τ 29 n := by
  unfold hp_K
  rw [hp_dy_k (by omega), hp_dy_k (by omega), hp_dy_k (by omega), hp_dy_k (by omega), hp_dy_k (by omega)]
theorem tb_KK {K : dC} {c : Nat} {v w : Int32} : tb_K (tb_K K c v) c w = tb_K K c w := by
  show (K.1, dC.kind K, dC.come K, upd (upd (dC.pat K) c v) c w, dC.tm K, dC.toll K) = _
  rw [upd_upd]
  rfl
theorem tb_it_s {τ : ax_Z} {n c m : Nat} : hp_K (tb_it τ n c (m + 1)) 29 n = tb_K (hp_K τ 29 n) c (nI m) := by
  induction m with
  | zero =>
    show hp_K (hp_dy (ax_up τ 34 c (nI 0)) 29 n) 29 n = _
    rw [hp_K_dy, tb_up]
  | succ m ih =>
    show hp_K (hp_dy (ax_up (tb_it τ n c (m + 1)) 34 c (nI (m + 1))) 29 n) 29 n = _
    rw [hp_K_dy, tb_up, ih, tb_KK]
theorem tb_it_u {τ : ax_Z} {n c m : Nat} : hp_K (ax_up (tb_it τ n c m) 34 c (nI m)) 29 n = tb_K (hp_K τ 29 n) c (nI m) := by
  cases m with
  | zero => exact tb_up
  | succ m => rw [tb_up, tb_it_s, tb_KK]
theorem tb_it_o {τ : ax_Z} {n c m b : Nat} (h : b ≠ 11) : tb_it τ n c m 29 b = τ 29 b := by
  induction m with
  | zero => rfl
  | succ m ih =>
    show hp_dy (ax_up (tb_it τ n c m) 34 c (nI m)) 29 n 29 b = _
    rw [hp_dy_o h, up_ne (by decide), ih]
theorem tb_it_h {τ : ax_Z} {n c m : Nat} : tb_it τ n c m 33 = τ 33 := by
  induction m with
  | zero => rfl
  | succ m ih =>
    show hp_dy (ax_up (tb_it τ n c m) 34 c (nI m)) 29 n (29 + 4) = _
    rw [hp_dy_k (by omega), up_ne (by decide)]
    exact ih
theorem tb_it_fr {τ : ax_Z} {n c m : Nat} : ax_fr 29 39 τ (tb_it τ n c m) := by
  induction m with
  | zero => exact ax_fr.rf
  | succ m ih =>
    intro a h
    show hp_dy (ax_up (tb_it τ n c m) 34 c (nI m)) 29 n a = _
    rw [hp_dy_ne (by omega), up_ne (by omega)]
    exact ih a h
theorem tb_S_fr {τ : ax_Z} {n c : Nat} : ax_fr 29 39 τ (tb_S τ n c) := by
  intro a h
  unfold tb_S
  rw [up_ne (by omega)]
  exact tb_it_fr a h
theorem tb_S_o {τ : ax_Z} {n c b : Nat} (h : b ≠ 11) : tb_S τ n c 29 b = τ 29 b := by
  unfold tb_S
  rw [up_ne (by decide), tb_it_o h]
theorem tb_S_h {τ : ax_Z} {n c : Nat} : tb_S τ n c 33 = τ 33 := by
  unfold tb_S
  rw [up_ne (by decide), tb_it_h]
theorem tb_S_K {τ : ax_Z} {n c : Nat} : hp_K (tb_S τ n c) 29 n = tb_K (hp_K τ 29 n) c (nI (dd_B (τ 33) (hp_K τ 29 n) c)) := by
  unfold tb_S
  rw [tb_up, show (12 : Nat) = 11 + 1 from rfl, tb_it_s, tb_KK]
theorem tb_cost {τ : ax_Z} {n c m : Nat} (h7 : n ≤ 7) (hc : c < 7) : (if tb_it τ n c (m + 1) 35 c = -1000000 then -1000000 else tb_it τ n c (m + 1) 33 c * (tb_it τ n c (m + 1) 35 c - tb_it τ n c (m + 1) 32 c) + tb_it τ n c (m + 1) 36 c) = dd_x (tb_K (hp_K τ 29 n) c (nI m)) (τ 33) c := by
  have e1 : tb_it τ n c (m + 1) 35 c = DW (tb_K (hp_K τ 29 n) c (nI m)) c := by
    rw [← tb_it_u]
    exact hp_dy_w (p := 29) h7 hc
  have e2 : tb_it τ n c (m + 1) 36 c = DP (tb_K (hp_K τ 29 n) c (nI m)) c := by
    rw [← tb_it_u]
    exact hp_dy_p (p := 29) h7 hc
  have e3 : tb_it τ n c (m + 1) 32 c = τ 32 c := by
    have := congrArg (fun K : dC => dC.come K c) (tb_it_s (τ := τ) (n := n) (c := c) (m := m))
    exact this
  rw [e1, e2, e3, tb_it_h]
  rfl
/-- a round of bests -/
def rd_K (haste : Nat → Int32) (K : dC) : Nat → dC
  | 0 => K
  | c + 1 => tb_K (rd_K haste K c) c (nI (dd_B haste (rd_K haste K c) c))
def rd_F (haste : Nat → Int32) (K : dC) : Nat → Bool
  | 0 => false
  | c + 1 => rd_F haste K c || decide (¬ nI (dd_B haste (rd_K haste K c) c) = dC.pat (rd_K haste K c) c)
def rr_K (haste : Nat → Int32) (K : dC) : Nat → dC
  | 0 => K
  | r + 1 => rd_K haste (rr_K haste K r) K.1
/-- how many rounds, from round r on, q left -/
def rr_R (haste : Nat → Int32) (K : dC) : Nat → Nat → Int32
  | 0, _ => -1000000
  | q + 1, r => if rd_F haste (rr_K haste K r) K.1 = true then rr_R haste K q (r + 1) else nI (r + 1)
def rr_E (haste : Nat → Int32) (K : dC) : Nat → Nat → Nat
  | 0, r => r
  | q + 1, r => if rd_F haste (rr_K haste K r) K.1 = true then rr_E haste K q (r + 1) else r + 1
def rd_S (τ : ax_Z) (n : Nat) : Nat → ax_Z
  | 0 => τ
  | c + 1 => tb_S (rd_S τ n c) n c
theorem rd_S_fr {τ : ax_Z} {n c : Nat} : ax_fr 29 39 τ (rd_S τ n c) := by
  induction c with
  | zero => exact ax_fr.rf
  | succ c ih => exact ih.tr tb_S_fr
theorem rd_S_o {τ : ax_Z} {n c b : Nat} (h : b ≠ 11) : rd_S τ n c 29 b = τ 29 b := by
  induction c with
  | zero => rfl
  | succ c ih => rw [rd_S, tb_S_o h, ih]
theorem rd_S_h {τ : ax_Z} {n c : Nat} : rd_S τ n c 33 = τ 33 := by
  induction c with
  | zero => rfl
  | succ c ih => rw [rd_S, tb_S_h, ih]
theorem rd_S_K {τ : ax_Z} {n c : Nat} : hp_K (rd_S τ n c) 29 n = rd_K (τ 33) (hp_K τ 29 n) c := by
  induction c with
  | zero => rfl
  | succ c ih => rw [rd_S, tb_S_K, ih, rd_S_h, rd_K]
def rr_S (τ : ax_Z) (n : Nat) : Nat → ax_Z
  | 0 => τ
  | r + 1 => rd_S (rr_S τ n r) n n
theorem rr_S_fr {τ : ax_Z} {n r : Nat} : ax_fr 29 39 τ (rr_S τ n r) := by
  induction r with
  | zero => exact ax_fr.rf
  | succ r ih => exact ih.tr rd_S_fr
theorem rr_S_o {τ : ax_Z} {n r b : Nat} (h : b ≠ 11) : rr_S τ n r 29 b = τ 29 b := by
  induction r with
  | zero => rfl
  | succ r ih => rw [rr_S, rd_S_o h, ih]
theorem rr_S_h {τ : ax_Z} {n r : Nat} : rr_S τ n r 33 = τ 33 := by
  induction r with
  | zero => rfl
  | succ r ih => rw [rr_S, rd_S_h, ih]
theorem rr_S_K {τ : ax_Z} {n r : Nat} : hp_K (rr_S τ n r) 29 n = rr_K (τ 33) (hp_K τ 29 n) r := by
  induction r with
  | zero => rfl
  | succ r ih => rw [rr_S, rd_S_K, ih, rr_S_h, rr_K]
/-- the patiences by which cart c goes in hour hr -/
def th_f (K : dC) (c : Nat) (hr : Int32) (m : Nat) : Bool := decide (DW (tb_K K c (nI m)) c = hr)
/-- two who wait: costs of the first and of the second, when, who -/
abbrev tw_T : Type := Int32 × Int32 × Int32 × Int32
def tw_step (toll ha hb na nb t : Int32) (s : tw_T) : tw_T :=
  if toll ≤ hb + s.2.1 then (if toll ≤ 0 then (toll, 0, t, na) else (0, toll, t, nb)) else (if toll ≤ ha + s.1 then (toll, 0, t, na) else (ha + s.1, hb + s.2.1, s.2.2.1, s.2.2.2))
def tw_f (toll ha hb na nb : Int32) : Nat → tw_T
  | 0 => (toll, 0, 11, na)
  | m + 1 => tw_step toll ha hb na nb (10 - nI m) (tw_f toll ha hb na nb m)
theorem tw_t {m : Nat} (hm : m < 100) : (10 : Int32) - nI m + -1 = 10 - nI (m + 1) := by
  rw [← nI_1]
  have : ∀ a : Int32, (10 : Int32) - a + -1 = 10 - (a + 1) := by
    intro a
    apply Int32.toBitVec_inj.mp
    simp only [Int32.toBitVec_add, Int32.toBitVec_sub, Int32.toBitVec_neg]
    show (10#32) - a.toBitVec + -(1#32) = 10#32 - (a.toBitVec + 1#32)
    generalize a.toBitVec = b
    bv_omega
  exact this _
theorem tw_lt {m h : Nat} (hm : m < 100) (hh : h < 100) : (10 : Int32) - nI m < nI h ↔ 10 < m + h := by
  have e : ((10 : Int32) - nI m).toInt = 10 - (m : Int) := pk_sub_toInt (a := 10) (by decide) (by omega)
  rw [Int32.lt_iff_toInt_lt, e, nI_toInt (by omega)]
  omega
/-- who was first, added up -/
def bo_a (tm py : Nat → Int32) : Nat → Nat → Int32
  | 0 => tm
  | h + 1 => if py h = -1 then bo_a tm py h else upd (bo_a tm py h) (py h).toNatClampNeg (bo_a tm py h (py h).toNatClampNeg + 1)
def tm_K (K : dC) (tm : Nat → Int32) : dC := (K.1, dC.kind K, dC.come K, dC.pat K, tm, dC.toll K)
def bo_f (K : dC) : Nat → Nat → Int32
  | 0 => dC.tm K
  | d + 1 => bo_a (bo_f K d) (DY (tm_K K (bo_f K d))) 12
/-- a ford -/
def fd_f (T H P : Nat) : Nat → Nat
  | 0 => T
  | m + 1 => min (H * 100 ^ (m + 1) + (100 - P) * fd_f T H P m) (T * 100 ^ (m + 1))
/-- a goat -/
def go_K (K : dC) (hr : Int32) : dC := (K.1 + 1, upd (dC.kind K) K.1 5, upd (dC.come K) K.1 hr, upd (dC.pat K) K.1 0, dC.tm K, dC.toll K)
