/-! the reference's methods -/
theorem i64_le {a b : Int32} : a.toInt64 ≤ b.toInt64 ↔ a ≤ b := by
  rw [Int64.le_iff_toInt_le, Int32.le_iff_toInt_le, Int32.toInt_toInt64, Int32.toInt_toInt64]
theorem i64_lt {a b : Int32} : a.toInt64 < b.toInt64 ↔ a < b := by
  rw [Int64.lt_iff_toInt_lt, Int32.lt_iff_toInt_lt, Int32.toInt_toInt64, Int32.toInt_toInt64]
/-- numbers from k1 on, n of them, come to k2 from d on (rows apart) -/
def cpn (σ : ax_Z) (k1 s k2 d n : Nat) : ax_Z := fun a b => if a = k2 ∧ d ≤ b ∧ b < d + n then σ k1 (s + (b - d)) else σ a b
theorem cpn_0 {σ : ax_Z} {k1 s k2 d : Nat} : cpn σ k1 s k2 d 0 = σ := by
  funext a b
  unfold cpn
  rw [if_neg (by omega)]
theorem cpn_s {σ : ax_Z} {k1 s k2 d n : Nat} (h : k1 ≠ k2) : ax_up (cpn σ k1 s k2 d n) k2 (d + n) (cpn σ k1 s k2 d n k1 (s + n)) = cpn σ k1 s k2 d (n + 1) := by
  funext a b
  unfold ax_up
  by_cases e : a = k2 ∧ b = d + n
  · rw [if_pos e]
    unfold cpn
    rw [if_neg (fun z => h z.1), if_pos ⟨e.1, by omega, by omega⟩, e.2, Nat.add_sub_cancel_left]
  · rw [if_neg e]
    unfold cpn
    by_cases e2 : a = k2 ∧ d ≤ b ∧ b < d + n
    · rw [if_pos e2, if_pos ⟨e2.1, e2.2.1, by omega⟩]
    · rw [if_neg e2, if_neg (fun z => e2 ⟨z.1, z.2.1, by
        have : b ≠ d + n := fun q => e ⟨z.1, q⟩
        omega⟩)]
theorem cpn_ne {σ : ax_Z} {k1 s k2 d n a : Nat} (h : a ≠ k2) : cpn σ k1 s k2 d n a = σ a := by
  funext b
  unfold cpn
  rw [if_neg (fun z => h z.1)]
theorem cpn_in {σ : ax_Z} {k1 s k2 d n b : Nat} (h1 : d ≤ b) (h2 : b < d + n) : cpn σ k1 s k2 d n k2 b = σ k1 (s + (b - d)) := if_pos ⟨rfl, h1, h2⟩
theorem cpn_o {σ : ax_Z} {k1 s k2 d n b : Nat} (h : b < d ∨ d + n ≤ b) : cpn σ k1 s k2 d n k2 b = σ k2 b := if_neg (fun z => by omega)
/-- numbers from d on, n of them, become v -/
def fin (σ : ax_Z) (k d n : Nat) (v : Int32) : ax_Z := fun a b => if a = k ∧ d ≤ b ∧ b < d + n then v else σ a b
theorem fin_0 {σ : ax_Z} {k d : Nat} {v : Int32} : fin σ k d 0 v = σ := by
  funext a b
  unfold fin
  rw [if_neg (by omega)]
theorem fin_s {σ : ax_Z} {k d n : Nat} {v : Int32} : ax_up (fin σ k d n v) k (d + n) v = fin σ k d (n + 1) v := by
  funext a b
  unfold ax_up fin
  by_cases e : a = k ∧ b = d + n
  · rw [if_pos e, if_pos ⟨e.1, by omega, by omega⟩]
  · rw [if_neg e]
    by_cases e2 : a = k ∧ d ≤ b ∧ b < d + n
    · rw [if_pos e2, if_pos ⟨e2.1, e2.2.1, by omega⟩]
    · rw [if_neg e2, if_neg (fun z => e2 ⟨z.1, z.2.1, by
        have : b ≠ d + n := fun q => e ⟨z.1, q⟩
        omega⟩)]
theorem fin_ne {σ : ax_Z} {k d n a : Nat} {v : Int32} (h : a ≠ k) : fin σ k d n v a = σ a := by
  funext b
  unfold fin
  rw [if_neg (fun z => h z.1)]
/-- what is shifted down by 44 -/
def shd (σ : ax_Z) (n : Nat) : ax_Z := fun a b => if a = 83 ∧ b < n then σ 83 (b + 44) else σ a b
theorem shd_0 {σ : ax_Z} : shd σ 0 = σ := by
  funext a b
  unfold shd
  rw [if_neg (by omega)]
theorem shd_s {σ : ax_Z} {n : Nat} : ax_up (shd σ n) 83 n (shd σ n 83 (n + 44)) = shd σ (n + 1) := by
  funext a b
  unfold ax_up
  by_cases e : a = 83 ∧ b = n
  · rw [if_pos e]
    unfold shd
    rw [if_neg (by omega), if_pos ⟨e.1, by omega⟩, e.2]
  · rw [if_neg e]
    unfold shd
    by_cases e2 : a = 83 ∧ b < n
    · rw [if_pos e2, if_pos ⟨e2.1, by omega⟩]
    · rw [if_neg e2, if_neg (fun z => e2 ⟨z.1, by
        have : b ≠ n := fun q => e ⟨z.1, q⟩
        omega⟩)]
theorem shd_ne {σ : ax_Z} {n a : Nat} (h : a ≠ 83) : shd σ n a = σ a := by
  funext b
  unfold shd
  rw [if_neg (fun z => h z.1)]
theorem shd_o {σ : ax_Z} {n b : Nat} (h : n ≤ b) : shd σ n 83 b = σ 83 b := if_neg (fun z => by omega)
theorem ix40 {c k : Nat} : (40 : Int32) * nI c + nI k = nI (40 * c + k) := by rw [show (40 : Int32) = nI 40 from rfl, pk_mul, nI_add]
theorem ix44 {c k : Nat} : (44 : Int32) * nI c + nI k = nI (44 * c + k) := by rw [show (44 : Int32) = nI 44 from rfl, pk_mul, nI_add]
theorem ix8 {c k : Nat} : (8 : Int32) + 6 * nI c + nI k = nI (8 + 6 * c + k) := by rw [show (6 : Int32) = nI 6 from rfl, show (8 : Int32) = nI 8 from rfl, pk_mul, nI_add, nI_add]
/-- an act is kept: a snapshot -/
def mk_sh (σ : ax_Z) : ax_Z := ax_up (shd σ 1012) 77 9 (nI 23)
def mk_put (σ : ax_Z) (m : Nat) : ax_Z := ax_up (cpn σ 81 0 83 (44 * m) 44) 77 9 (nI (m + 1))
def mk_keep (σ : ax_Z) (m : Nat) : ax_Z := if m = 24 then mk_put (mk_sh σ) 23 else mk_put σ m

set_option maxRecDepth 20000 in
set_option maxHeartbeats 4000000 in
theorem w_X7_in {Y : ax_Y} {ad : Nat → Nat} (F : ax_F Y) {l : Launch} {σ : ax_Z} {v lo hi : Int32} {a b : Int64} (ha : a = lo.toInt64) (hb : b = hi.toInt64) : ax_m Y ad l iX7_in 0 σ [.long v.toInt64, .long a, .long b] (some (.int (ax_b (lo ≤ v ∧ v ≤ hi)))) σ := by
  subst ha; subst hb
  refine ax_m.of F kX7_in.1 [some (.long v.toInt64), none, some (.long lo.toInt64), none, some (.long hi.toInt64), none] rfl (Nat.le_of_ble_eq_true rfl) (fun x C => ?_)
  refine ax_lload_0 (pc := 0) C dX7_in_0 ?_
  refine ax_lload_2 (pc := 1) C dX7_in_1 ?_
  refine ax_lcmp (pc := 2) C dX7_in_2 ?_
  refine ax_if_lt (pc := 3) (tgt := 17) C dX7_in_3 (by decide) (fun h3 => ?_) (fun h3 => ?_)
  · refine ax_iconst (pc := 17) (v := 0) C dX7_in_17 (by decide) ?_
    exact ax_zr (pc := 18) C rfl rfl dX7_in_18 (ax_b0 (fun z => Int64.not_lt.mpr (i64_le.mpr z.1) ((lg_cmp_lt _ _).mp h3))) rfl
  · refine ax_lload_0 (pc := 6) C dX7_in_6 ?_
    refine ax_lload_4 (pc := 7) C dX7_in_7 ?_
    refine ax_lcmp (pc := 9) C dX7_in_9 ?_
    refine ax_if_gt (pc := 10) (tgt := 17) C dX7_in_10 (by decide) (fun h10 => ?_) (fun h10 => ?_)
    · refine ax_iconst (pc := 17) (v := 0) C dX7_in_17 (by decide) ?_
      exact ax_zr (pc := 18) C rfl rfl dX7_in_18 (ax_b0 (fun z => Int64.not_lt.mpr (i64_le.mpr z.2) ((lg_cmp_gt _ _).mp h10))) rfl
    · refine ax_iconst (pc := 13) (v := 1) C dX7_in_13 (by decide) ?_
      refine ax_goto (pc := 14) (tgt := 18) C dX7_in_14 (by decide) ?_
      exact ax_zr (pc := 18) C rfl rfl dX7_in_18 (ax_b1 ⟨i64_le.mp (Int64.not_lt.mp (fun z => h3 ((lg_cmp_lt _ _).mpr z))), i64_le.mp (Int64.not_lt.mp (fun z => h10 ((lg_cmp_gt _ _).mpr z)))⟩) rfl

set_option maxRecDepth 20000 in
set_option maxHeartbeats 4000000 in
theorem w_X7_finding {Y : ax_Y} {ad : Nat → Nat} (F : ax_F Y) {l : Launch} {σ : ax_Z} {v : Int32} : ax_m Y ad l iX7_finding 0 σ [.ref (ad 77), .int v] (some (.int (-1000010 - v))) (ax_up σ 77 1 v) := by
  refine ax_m.of F kX7_finding.1 [some (.ref (ad 77)), some (.int (v))] rfl (Nat.le_of_ble_eq_true rfl) (fun x C => ?_)
  refine ax_aload_0 (pc := 0) C dX7_finding_0 ?_
  refine ax_iload_1 (pc := 1) C dX7_finding_1 ?_
  refine ax_putI (pc := 2) C fX7_69 dX7_finding_2 rfl rfl rfl rfl ?_
  refine ax_ldc (pc := 5) C dX7_finding_5 qX7_72 ?_
  refine ax_iload_1 (pc := 7) C dX7_finding_7 ?_
  refine ax_isub (pc := 8) C dX7_finding_8 ?_
  exact ax_ir (pc := 9) C rfl dX7_finding_9 rfl rfl

set_option maxRecDepth 20000 in
set_option maxHeartbeats 4000000 in
theorem w_X7_isRow {Y : ax_Y} {ad : Nat → Nat} (F : ax_F Y) {l : Launch} {σ : ax_Z} {v : Int32} : ax_m Y ad l iX7_isRow 1 σ [.int v] (some (.int (ax_b (0 ≤ v ∧ v ≤ 7)))) σ := by
  refine ax_m.of F kX7_isRow.1 [some (.int (v))] rfl (Nat.le_of_ble_eq_true rfl) (fun x C => ?_)
  refine ax_iload_0 (pc := 0) C dX7_isRow_0 ?_
  refine ax_i2l (pc := 1) C dX7_isRow_1 ?_
  refine ax_lconst (pc := 2) (v := 0) C dX7_isRow_2 (by decide) ?_
  refine ax_ldc2 (pc := 3) C dX7_isRow_3 qX7_73 ?_
  refine ax_callSi (pc := 6) C (w_X7_in F (lo := (0)) (hi := (7)) rfl rfl) kX7_in mX7_75 dX7_isRow_6 (by decide) rfl rfl (Nat.le_of_ble_eq_true rfl) rfl ⟨Nat.le_refl _, Nat.le_refl _⟩ ?_
  exact ax_zr (pc := 9) C rfl (by first | rfl | (unfold ax_b; split <;> rfl)) dX7_isRow_9 rfl rfl

set_option maxRecDepth 20000 in
set_option maxHeartbeats 4000000 in
theorem w_X7_isHour {Y : ax_Y} {ad : Nat → Nat} (F : ax_F Y) {l : Launch} {σ : ax_Z} {v : Int32} : ax_m Y ad l iX7_isHour 1 σ [.int v] (some (.int (ax_b (0 ≤ v ∧ v ≤ 11)))) σ := by
  refine ax_m.of F kX7_isHour.1 [some (.int (v))] rfl (Nat.le_of_ble_eq_true rfl) (fun x C => ?_)
  refine ax_iload_0 (pc := 0) C dX7_isHour_0 ?_
  refine ax_i2l (pc := 1) C dX7_isHour_1 ?_
  refine ax_lconst (pc := 2) (v := 0) C dX7_isHour_2 (by decide) ?_
  refine ax_ldc2 (pc := 3) C dX7_isHour_3 qX7_193 ?_
  refine ax_callSi (pc := 6) C (w_X7_in F (lo := (0)) (hi := (11)) rfl rfl) kX7_in mX7_75 dX7_isHour_6 (by decide) rfl rfl (Nat.le_of_ble_eq_true rfl) rfl ⟨Nat.le_refl _, Nat.le_refl _⟩ ?_
  exact ax_zr (pc := 9) C rfl (by first | rfl | (unfold ax_b; split <;> rfl)) dX7_isHour_9 rfl rfl

set_option maxRecDepth 20000 in
set_option maxHeartbeats 4000000 in
theorem w_X7_isCart {Y : ax_Y} {ad : Nat → Nat} (F : ax_F Y) {l : Launch} {σ : ax_Z} {n : Nat} (hn : σ 81 0 = nI n) {v : Int32} : ax_m Y ad l iX7_isCart 1 σ [.ref (ad 77), .int v] (some (.int (ax_b (0 ≤ v ∧ v ≤ nI n - 1)))) σ := by
  refine ax_m.of F kX7_isCart.1 [some (.ref (ad 77)), some (.int (v))] rfl (Nat.le_of_ble_eq_true rfl) (fun x C => ?_)
  refine ax_iload_1 (pc := 0) C dX7_isCart_0 ?_
  refine ax_i2l (pc := 1) C dX7_isCart_1 ?_
  refine ax_lconst (pc := 2) (v := 0) C dX7_isCart_2 (by decide) ?_
  refine ax_aload_0 (pc := 3) C dX7_isCart_3 ?_
  refine ax_getR (pc := 4) C fX7_19 dX7_isCart_4 rfl rfl ?_
  refine ax_iconst (pc := 7) (v := 0) C dX7_isCart_7 (by decide) ?_
  refine ax_iae (pc := 8) (c := 0) C dX7_isCart_8 rfl rfl (by decide) (by decide) ?_
  refine ax_val C hn ?_
  refine ax_iconst (pc := 9) (v := 1) C dX7_isCart_9 (by decide) ?_
  refine ax_isub (pc := 10) C dX7_isCart_10 ?_
  refine ax_i2l (pc := 11) C dX7_isCart_11 ?_
  refine ax_callSi (pc := 12) C (w_X7_in F (lo := (0)) rfl rfl) kX7_in mX7_75 dX7_isCart_12 (by decide) rfl rfl (Nat.le_of_ble_eq_true rfl) rfl ⟨Nat.le_refl _, Nat.le_refl _⟩ ?_
  exact ax_zr (pc := 15) C rfl (by first | rfl | (unfold ax_b; split <;> rfl)) dX7_isCart_15 rfl rfl

set_option maxRecDepth 20000 in
set_option maxHeartbeats 4000000 in
theorem w_X7_of {Y : ax_Y} {ad : Nat → Nat} (F : ax_F Y) {l : Launch} {σ : ax_Z} {c k : Nat} (hc : c < 6) (hk : k < 6) : ax_m Y ad l iX7_of 0 σ [.ref (ad 77), .int (nI c), .int (nI k)] (some (.int (σ 81 (8 + 6 * c + k)))) σ := by
  refine ax_m.of F kX7_of.1 [some (.ref (ad 77)), some (.int (nI c)), some (.int (nI k))] rfl (Nat.le_of_ble_eq_true rfl) (fun x C => ?_)
  refine ax_aload_0 (pc := 0) C dX7_of_0 ?_
  refine ax_getR (pc := 1) C fX7_19 dX7_of_1 rfl rfl ?_
  refine ax_bipush (pc := 4) (v := 8) C dX7_of_4 (by decide) ?_
  refine ax_bipush (pc := 6) (v := 6) C dX7_of_6 (by decide) ?_
  refine ax_iload_1 (pc := 8) C dX7_of_8 ?_
  refine ax_imul (pc := 9) C dX7_of_9 ?_
  refine ax_iadd (pc := 10) C dX7_of_10 ?_
  refine ax_iload_2 (pc := 11) C dX7_of_11 ?_
  refine ax_iadd (pc := 12) C dX7_of_12 ?_
  refine ax_iae (pc := 13) (c := 8 + 6 * c + k) C dX7_of_13 rfl ix8 (by omega) (by decide) ?_
  exact ax_ir (pc := 14) C rfl dX7_of_14 rfl rfl

set_option maxRecDepth 20000 in
set_option maxHeartbeats 4000000 in
theorem w_X7_tollFor {Y : ax_Y} {ad : Nat → Nat} (F : ax_F Y) {l : Launch} {σ : ax_Z} {k : Nat} (hk0 : 0 < k) (hk : k < 100) : ax_m Y ad l iX7_tollFor 0 σ [.ref (ad 77), .int (nI k)] (some (.int (hs_toll (fun t => σ 81 (2 + t)) k))) σ := by
  refine ax_m.of F kX7_tollFor.1 [some (.ref (ad 77)), some (.int (nI k))] rfl (Nat.le_of_ble_eq_true rfl) (fun x C => ?_)
  refine ax_aload_0 (pc := 0) C dX7_tollFor_0 ?_
  refine ax_getR (pc := 1) C fX7_19 dX7_tollFor_1 rfl rfl ?_
  refine ax_iconst (pc := 4) (v := 2) C dX7_tollFor_4 (by decide) ?_
  refine ax_iload_1 (pc := 5) C dX7_tollFor_5 ?_
  refine ax_bipush (pc := 6) (v := 6) C dX7_tollFor_6 (by decide) ?_
  refine ax_icmp_le (pc := 8) (tgt := 16) C dX7_tollFor_8 (by decide) (fun h8 => ?_) (fun h8 => ?_)
  · have hk6 : k ≤ 6 := (nI_leI (b := 6) (by omega) (by decide)).mp h8
    have ix : (2 : Int32) + nI k - 1 = nI (2 + (k - 1)) := by rw [show (2 : Int32) = nI 2 from rfl, show (1 : Int32) = nI 1 from rfl, nI_add, pk_sub (by omega)]; congr 1; omega
    have kx : 2 + (k - 1) < 44 := by omega
    have hv : hs_toll (fun t => σ 81 (2 + t)) k = σ 81 (2 + (k - 1)) := by rw [hs_toll, if_neg (by omega), Nat.min_eq_left hk6]
    refine ax_iload_1 (pc := 16) C dX7_tollFor_16 ?_
    refine ax_iadd (pc := 17) C dX7_tollFor_17 ?_
    refine ax_iconst (pc := 18) (v := 1) C dX7_tollFor_18 (by decide) ?_
    refine ax_isub (pc := 19) C dX7_tollFor_19 ?_
    refine ax_iae (pc := 20) C dX7_tollFor_20 rfl ix kx (by decide) ?_
    exact ax_ir (pc := 21) C rfl dX7_tollFor_21 hv rfl
  · have hk6 : ¬ k ≤ 6 := fun z => h8 (nI_le (b := 6) z (by decide))
    have ix : (2 : Int32) + 6 - 1 = nI (2 + 5) := rfl
    have kx : 2 + 5 < 44 := by omega
    have hv : hs_toll (fun t => σ 81 (2 + t)) k = σ 81 (2 + 5) := by rw [hs_toll, if_neg (by omega), Nat.min_eq_right (by omega)]
    refine ax_bipush (pc := 11) (v := 6) C dX7_tollFor_11 (by decide) ?_
    refine ax_goto (pc := 13) (tgt := 17) C dX7_tollFor_13 (by decide) ?_
    refine ax_iadd (pc := 17) C dX7_tollFor_17 ?_
    refine ax_iconst (pc := 18) (v := 1) C dX7_tollFor_18 (by decide) ?_
    refine ax_isub (pc := 19) C dX7_tollFor_19 ?_
    refine ax_iae (pc := 20) C dX7_tollFor_20 rfl ix kx (by decide) ?_
    exact ax_ir (pc := 21) C rfl dX7_tollFor_21 hv rfl

set_option maxRecDepth 20000 in
set_option maxHeartbeats 4000000 in
theorem w_X7_fault {Y : ax_Y} {ad : Nat → Nat} (F : ax_F Y) {l : Launch} {σ : ax_Z} : ax_m Y ad l iX7_fault 0 σ [.ref (ad 77)] (some (.int (ax_up σ 77 0 0 77 12))) (ax_up σ 77 0 0) := by
  refine ax_m.of F kX7_fault.1 [some (.ref (ad 77))] rfl (Nat.le_of_ble_eq_true rfl) (fun x C => ?_)
  refine ax_aload_0 (pc := 0) C dX7_fault_0 ?_
  refine ax_iconst (pc := 1) (v := 0) C dX7_fault_1 (by decide) ?_
  refine ax_putI (pc := 2) C fX7_65 dX7_fault_2 rfl rfl rfl rfl ?_
  refine ax_aload_0 (pc := 5) C dX7_fault_5 ?_
  refine ax_getI (pc := 6) C fX7_182 dX7_fault_6 rfl rfl ?_
  exact ax_ir (pc := 9) C rfl dX7_fault_9 rfl rfl

set_option maxRecDepth 20000 in
set_option maxHeartbeats 4000000 in
theorem w_X7_status {Y : ax_Y} {ad : Nat → Nat} (F : ax_F Y) {l : Launch} {σ : ax_Z} : ax_m Y ad l iX7_status 0 σ [.ref (ad 77)] (some (.int (ax_up σ 77 0 0 77 1))) (ax_up σ 77 0 0) := by
  refine ax_m.of F kX7_status.1 [some (.ref (ad 77))] rfl (Nat.le_of_ble_eq_true rfl) (fun x C => ?_)
  refine ax_aload_0 (pc := 0) C dX7_status_0 ?_
  refine ax_iconst (pc := 1) (v := 0) C dX7_status_1 (by decide) ?_
  refine ax_putI (pc := 2) C fX7_65 dX7_status_2 rfl rfl rfl rfl ?_
  refine ax_aload_0 (pc := 5) C dX7_status_5 ?_
  refine ax_getI (pc := 6) C fX7_69 dX7_status_6 rfl rfl ?_
  exact ax_ir (pc := 9) C rfl dX7_status_9 rfl rfl

set_option maxRecDepth 20000 in
set_option maxHeartbeats 4000000 in
theorem w_X7_drop {Y : ax_Y} {ad : Nat → Nat} (F : ax_F Y) {l : Launch} {σ : ax_Z} {row : Int32} : ax_m Y ad l iX7_drop 2 σ [.ref (ad 77), .int row] (some (.int (if 0 ≤ row ∧ row ≤ 7 then (if 0 ≤ (ax_up (ax_up σ 77 0 0) 77 1 0) 78 row.toNatClampNeg then ax_up (ax_up (ax_up σ 77 0 0) 77 1 0) 78 row.toNatClampNeg (-1) 79 row.toNatClampNeg else -1000010 - 1) else -1000001))) (if 0 ≤ row ∧ row ≤ 7 then (if 0 ≤ (ax_up (ax_up σ 77 0 0) 77 1 0) 78 row.toNatClampNeg then ax_up (ax_up (ax_up σ 77 0 0) 77 1 0) 78 row.toNatClampNeg (-1) else ax_up (ax_up (ax_up σ 77 0 0) 77 1 0) 77 1 1) else (ax_up σ 77 0 0)) := by
  refine ax_m.of F kX7_drop.1 [some (.ref (ad 77)), some (.int (row))] rfl (Nat.le_of_ble_eq_true rfl) (fun x C => ?_)
  refine ax_aload_0 (pc := 0) C dX7_drop_0 ?_
  refine ax_iconst (pc := 1) (v := 0) C dX7_drop_1 (by decide) ?_
  refine ax_putI (pc := 2) C fX7_65 dX7_drop_2 rfl rfl rfl rfl ?_
  refine ax_iload_1 (pc := 5) C dX7_drop_5 ?_
  refine ax_callSi (pc := 6) C (w_X7_isRow F) kX7_isRow mX7_79 dX7_drop_6 (by decide) rfl rfl (Nat.le_of_ble_eq_true rfl) rfl ⟨Nat.le_refl _, Nat.le_refl _⟩ ?_
  refine ax_if_ne (pc := 9) (tgt := 15) C dX7_drop_9 (by decide) (fun h9 => ?_) (fun h9 => ?_)
  · have h9 := ax_bne h9
    obtain ⟨c, hc, rfl⟩ := ax_ix (m := 7) (by decide) h9
    have ec : (nI c).toNatClampNeg = c := nI_clamp (by omega)
    refine ax_aload_0 (pc := 15) C dX7_drop_15 ?_
    refine ax_iconst (pc := 16) (v := 0) C dX7_drop_16 (by decide) ?_
    refine ax_putI (pc := 17) C fX7_69 dX7_drop_17 rfl rfl rfl rfl ?_
    refine ax_aload_0 (pc := 20) C dX7_drop_20 ?_
    refine ax_getR (pc := 21) C fX7_7 dX7_drop_21 rfl rfl ?_
    refine ax_iload_1 (pc := 24) C dX7_drop_24 ?_
    refine ax_ian (pc := 25) C dX7_drop_25 rfl (by omega) (by omega) ?_
    refine ax_if_ge (pc := 26) (tgt := 35) C dX7_drop_26 (by decide) (fun h26 => ?_) (fun h26 => ?_)
    · refine ax_aload_0 (pc := 35) C dX7_drop_35 ?_
      refine ax_getR (pc := 36) C fX7_7 dX7_drop_36 rfl rfl ?_
      refine ax_iload_1 (pc := 39) C dX7_drop_39 ?_
      refine ax_iconst (pc := 40) (v := (-1)) C dX7_drop_40 (by decide) ?_
      refine ax_isn (pc := 41) C dX7_drop_41 rfl (by omega) (by omega) ?_
      refine ax_aload_0 (pc := 42) C dX7_drop_42 ?_
      refine ax_getR (pc := 43) C fX7_13 dX7_drop_43 rfl rfl ?_
      refine ax_iload_1 (pc := 46) C dX7_drop_46 ?_
      refine ax_ian (pc := 47) C dX7_drop_47 rfl (by omega) (by omega) ?_
      exact ax_ir (pc := 48) C rfl dX7_drop_48 (by first | with_reducible rfl | (simp only [h9, h26, if_true, if_false, true_and, and_true, false_and, and_false, not_false_eq_true, not_true_eq_false, ec]; done) | (simp only [h9, h26, if_true, if_false, true_and, and_true, false_and, and_false, not_false_eq_true, not_true_eq_false, ec]; with_reducible rfl)) (by first | with_reducible rfl | (simp only [h9, h26, if_true, if_false, true_and, and_true, false_and, and_false, not_false_eq_true, not_true_eq_false, ec]; done) | (simp only [h9, h26, if_true, if_false, true_and, and_true, false_and, and_false, not_false_eq_true, not_true_eq_false, ec]; with_reducible rfl))
    · refine ax_aload_0 (pc := 29) C dX7_drop_29 ?_
      refine ax_iconst (pc := 30) (v := 1) C dX7_drop_30 (by decide) ?_
      refine ax_callVi (pc := 31) C (w_X7_finding F) kX7_finding mX7_86 dX7_drop_31 (by decide) rfl rfl rfl rfl rfl (Nat.le_of_ble_eq_true rfl) rfl ⟨Nat.le_refl _, Nat.le_refl _⟩ ?_
      exact ax_ir (pc := 34) C rfl dX7_drop_34 (by first | with_reducible rfl | (simp only [h9, h26, if_true, if_false, true_and, and_true, false_and, and_false, not_false_eq_true, not_true_eq_false, ec]; done) | (simp only [h9, h26, if_true, if_false, true_and, and_true, false_and, and_false, not_false_eq_true, not_true_eq_false, ec]; with_reducible rfl)) (by first | with_reducible rfl | (simp only [h9, h26, if_true, if_false, true_and, and_true, false_and, and_false, not_false_eq_true, not_true_eq_false, ec]; done) | (simp only [h9, h26, if_true, if_false, true_and, and_true, false_and, and_false, not_false_eq_true, not_true_eq_false, ec]; with_reducible rfl))
  · have h9 := ax_beq h9
    refine ax_ldc (pc := 12) C dX7_drop_12 qX7_85 ?_
    exact ax_ir (pc := 14) C rfl dX7_drop_14 (by first | with_reducible rfl | (simp only [h9, if_true, if_false, true_and, and_true, false_and, and_false, not_false_eq_true, not_true_eq_false]; done) | (simp only [h9, if_true, if_false, true_and, and_true, false_and, and_false, not_false_eq_true, not_true_eq_false]; with_reducible rfl)) (by first | with_reducible rfl | (simp only [h9, if_true, if_false, true_and, and_true, false_and, and_false, not_false_eq_true, not_true_eq_false]; done) | (simp only [h9, if_true, if_false, true_and, and_true, false_and, and_false, not_false_eq_true, not_true_eq_false]; with_reducible rfl))

set_option maxRecDepth 20000 in
set_option maxHeartbeats 4000000 in
theorem w_X7_trace {Y : ax_Y} {ad : Nat → Nat} (F : ax_F Y) {l : Launch} {σ : ax_Z} {t : Nat} (ht : σ 77 34 = nI t) (ht16 : t ≤ 16) {i : Int32} : ax_m Y ad l iX7_trace 1 σ [.ref (ad 77), .int i] (some (.int (if 0 ≤ i ∧ i ≤ nI t - 1 then (ax_up σ 77 0 0) 95 i.toNatClampNeg else -1000000))) (ax_up σ 77 0 0) := by
  refine ax_m.of F kX7_trace.1 [some (.ref (ad 77)), some (.int (i))] rfl (Nat.le_of_ble_eq_true rfl) (fun x C => ?_)
  refine ax_aload_0 (pc := 0) C dX7_trace_0 ?_
  refine ax_iconst (pc := 1) (v := 0) C dX7_trace_1 (by decide) ?_
  refine ax_putI (pc := 2) C fX7_65 dX7_trace_2 rfl rfl rfl rfl ?_
  refine ax_iload_1 (pc := 5) C dX7_trace_5 ?_
  refine ax_i2l (pc := 6) C dX7_trace_6 ?_
  refine ax_lconst (pc := 7) (v := 0) C dX7_trace_7 (by decide) ?_
  refine ax_aload_0 (pc := 8) C dX7_trace_8 ?_
  refine ax_getI (pc := 9) C fX7_269 dX7_trace_9 rfl rfl ?_
  refine ax_val C (show _ = nI t by rw [up_o (by decide)]; exact ht) ?_
  refine ax_iconst (pc := 12) (v := 1) C dX7_trace_12 (by decide) ?_
  refine ax_isub (pc := 13) C dX7_trace_13 ?_
  refine ax_i2l (pc := 14) C dX7_trace_14 ?_
  refine ax_callSi (pc := 15) C (w_X7_in F (lo := (0)) rfl rfl) kX7_in mX7_75 dX7_trace_15 (by decide) rfl rfl (Nat.le_of_ble_eq_true rfl) rfl ⟨Nat.le_refl _, Nat.le_refl _⟩ ?_
  refine ax_if_eq (pc := 18) (tgt := 30) C dX7_trace_18 (by decide) (fun h18 => ?_) (fun h18 => ?_)
  · have h18 := ax_beq h18
    refine ax_ldc (pc := 30) C dX7_trace_30 qX7_101 ?_
    exact ax_ir (pc := 32) C rfl dX7_trace_32 (by first | with_reducible rfl | (simp only [h18, if_true, if_false, true_and, and_true, false_and, and_false, not_false_eq_true, not_true_eq_false]; done) | (simp only [h18, if_true, if_false, true_and, and_true, false_and, and_false, not_false_eq_true, not_true_eq_false]; with_reducible rfl)) rfl
  · have h18 := ax_bne h18
    obtain ⟨c, hc, rfl⟩ := ax_ixN (by omega) h18
    have ec : (nI c).toNatClampNeg = c := nI_clamp (by omega)
    refine ax_aload_0 (pc := 21) C dX7_trace_21 ?_
    refine ax_getR (pc := 22) C fX7_62 dX7_trace_22 rfl rfl ?_
    refine ax_iload_1 (pc := 25) C dX7_trace_25 ?_
    refine ax_ian (pc := 26) C dX7_trace_26 rfl (by omega) (by omega) ?_
    refine ax_goto (pc := 27) (tgt := 32) C dX7_trace_27 (by decide) ?_
    exact ax_ir (pc := 32) C rfl dX7_trace_32 (by first | with_reducible rfl | (simp only [h18, if_true, if_false, true_and, and_true, false_and, and_false, not_false_eq_true, not_true_eq_false, ec]; done) | (simp only [h18, if_true, if_false, true_and, and_true, false_and, and_false, not_false_eq_true, not_true_eq_false, ec]; with_reducible rfl)) rfl

set_option maxRecDepth 20000 in
set_option maxHeartbeats 4000000 in
theorem w_X7_kind {Y : ax_Y} {ad : Nat → Nat} (F : ax_F Y) {l : Launch} {σ : ax_Z} {n : Nat} (hn : σ 81 0 = nI n) (h6 : n ≤ 6) {cart : Int32} : ax_m Y ad l iX7_kind 2 σ [.ref (ad 77), .int cart] (some (.int (if (0 ≤ cart ∧ cart ≤ nI n - 1) then (ax_up σ 77 0 0) 81 (8 + 6 * cart.toNatClampNeg + 0) else -1000001))) (ax_up σ 77 0 0) := by
  refine ax_m.of F kX7_kind.1 [some (.ref (ad 77)), some (.int (cart))] rfl (Nat.le_of_ble_eq_true rfl) (fun x C => ?_)
  refine ax_aload_0 (pc := 0) C dX7_kind_0 ?_
  refine ax_iconst (pc := 1) (v := 0) C dX7_kind_1 (by decide) ?_
  refine ax_putI (pc := 2) C fX7_65 dX7_kind_2 rfl rfl rfl rfl ?_
  refine ax_aload_0 (pc := 5) C dX7_kind_5 ?_
  refine ax_iload_1 (pc := 6) C dX7_kind_6 ?_
  refine ax_callVi (pc := 7) C (w_X7_isCart F (n := n) (by rw [up_ne (by decide)]; exact hn)) kX7_isCart mX7_230 dX7_kind_7 (by decide) rfl rfl rfl rfl rfl (Nat.le_of_ble_eq_true rfl) rfl ⟨Nat.le_refl _, Nat.le_refl _⟩ ?_
  refine ax_if_eq (pc := 10) (tgt := 22) C dX7_kind_10 (by decide) (fun h10 => ?_) (fun h10 => ?_)
  · have h10 := ax_beq h10
    refine ax_ldc (pc := 22) C dX7_kind_22 qX7_85 ?_
    exact ax_ir (pc := 24) C rfl dX7_kind_24 (by first | with_reducible rfl | (simp only [h10, if_true, if_false, true_and, and_true, false_and, and_false, not_false_eq_true, not_true_eq_false]; done) | (simp only [h10, if_true, if_false, true_and, and_true, false_and, and_false, not_false_eq_true, not_true_eq_false]; with_reducible rfl)) rfl
  · have h10 := ax_bne h10
    obtain ⟨c, hc, rfl⟩ := ax_ixN (by omega) h10
    have ec : (nI c).toNatClampNeg = c := nI_clamp (by omega)
    refine ax_aload_0 (pc := 13) C dX7_kind_13 ?_
    refine ax_iload_1 (pc := 14) C dX7_kind_14 ?_
    refine ax_iconst (pc := 15) (v := 0) C dX7_kind_15 (by decide) ?_
    refine ax_callVi (pc := 16) C (w_X7_of F (k := 0) (by omega) (by decide)) kX7_of mX7_201 dX7_kind_16 (by decide) rfl rfl rfl rfl rfl (Nat.le_of_ble_eq_true rfl) rfl ⟨Nat.le_refl _, Nat.le_refl _⟩ ?_
    refine ax_goto (pc := 19) (tgt := 24) C dX7_kind_19 (by decide) ?_
    exact ax_ir (pc := 24) C rfl dX7_kind_24 (by first | with_reducible rfl | (simp only [h10, if_true, if_false, true_and, and_true, false_and, and_false, not_false_eq_true, not_true_eq_false, ec]; done) | (simp only [h10, if_true, if_false, true_and, and_true, false_and, and_false, not_false_eq_true, not_true_eq_false, ec]; with_reducible rfl)) rfl

set_option maxRecDepth 20000 in
set_option maxHeartbeats 4000000 in
theorem w_X7_set {Y : ax_Y} {ad : Nat → Nat} (F : ax_F Y) {l : Launch} {σ : ax_Z} {row a v : Int32} (hlen : ∀ c, c < 8 → ∃ len, len ≤ 40 ∧ σ 79 c = nI len) : ax_m Y ad l iX7_set 2 σ [.ref (ad 77), .int row, .int a, .int v] (some (.int (if 0 ≤ row ∧ row ≤ 7 then (if 0 ≤ (ax_up (ax_up σ 77 0 0) 77 1 0) 78 row.toNatClampNeg then (if (0 ≤ a ∧ a ≤ (ax_up (ax_up σ 77 0 0) 77 1 0) 79 row.toNatClampNeg - 1) then (if (ax_up (ax_up σ 77 0 0) 77 1 0) 78 row.toNatClampNeg = 0 then v.toInt8.toInt32 else if (ax_up (ax_up σ 77 0 0) 77 1 0) 78 row.toNatClampNeg = 1 then v.toInt16.toInt32 else v) else -1000010 - 2) else -1000010 - 1) else -1000001))) (if 0 ≤ row ∧ row ≤ 7 then (if 0 ≤ (ax_up (ax_up σ 77 0 0) 77 1 0) 78 row.toNatClampNeg then (if (0 ≤ a ∧ a ≤ (ax_up (ax_up σ 77 0 0) 77 1 0) 79 row.toNatClampNeg - 1) then ax_up (ax_up (ax_up σ 77 0 0) 77 1 0) 80 (40 * row.toNatClampNeg + a.toNatClampNeg) (if (ax_up (ax_up σ 77 0 0) 77 1 0) 78 row.toNatClampNeg = 0 then v.toInt8.toInt32 else if (ax_up (ax_up σ 77 0 0) 77 1 0) 78 row.toNatClampNeg = 1 then v.toInt16.toInt32 else v) else ax_up (ax_up (ax_up σ 77 0 0) 77 1 0) 77 1 2) else ax_up (ax_up (ax_up σ 77 0 0) 77 1 0) 77 1 1) else (ax_up σ 77 0 0)) := by
  refine ax_m.of F kX7_set.1 [some (.ref (ad 77)), some (.int (row)), some (.int (a)), some (.int (v))] rfl (Nat.le_of_ble_eq_true rfl) (fun x C => ?_)
  refine ax_aload_0 (pc := 0) C dX7_set_0 ?_
  refine ax_iconst (pc := 1) (v := 0) C dX7_set_1 (by decide) ?_
  refine ax_putI (pc := 2) C fX7_65 dX7_set_2 rfl rfl rfl rfl ?_
  refine ax_iload_1 (pc := 5) C dX7_set_5 ?_
  refine ax_callSi (pc := 6) C (w_X7_isRow F) kX7_isRow mX7_79 dX7_set_6 (by decide) rfl rfl (Nat.le_of_ble_eq_true rfl) rfl ⟨Nat.le_refl _, Nat.le_refl _⟩ ?_
  refine ax_if_ne (pc := 9) (tgt := 15) C dX7_set_9 (by decide) (fun h9 => ?_) (fun h9 => ?_)
  · have h9 := ax_bne h9
    obtain ⟨c, hc, rfl⟩ := ax_ix (m := 7) (by decide) h9
    have ec : (nI c).toNatClampNeg = c := nI_clamp (by omega)
    obtain ⟨len, hl1, hl2⟩ := hlen c (by omega)
    refine ax_aload_0 (pc := 15) C dX7_set_15 ?_
    refine ax_iconst (pc := 16) (v := 0) C dX7_set_16 (by decide) ?_
    refine ax_putI (pc := 17) C fX7_69 dX7_set_17 rfl rfl rfl rfl ?_
    refine ax_aload_0 (pc := 20) C dX7_set_20 ?_
    refine ax_getR (pc := 21) C fX7_7 dX7_set_21 rfl rfl ?_
    refine ax_iload_1 (pc := 24) C dX7_set_24 ?_
    refine ax_ian (pc := 25) C dX7_set_25 rfl (by omega) (by omega) ?_
    refine ax_if_ge (pc := 26) (tgt := 35) C dX7_set_26 (by decide) (fun h26 => ?_) (fun h26 => ?_)
    · refine ax_iload_2 (pc := 35) C dX7_set_35 ?_
      refine ax_i2l (pc := 36) C dX7_set_36 ?_
      refine ax_lconst (pc := 37) (v := 0) C dX7_set_37 (by decide) ?_
      refine ax_aload_0 (pc := 38) C dX7_set_38 ?_
      refine ax_getR (pc := 39) C fX7_13 dX7_set_39 rfl rfl ?_
      refine ax_iload_1 (pc := 42) C dX7_set_42 ?_
      refine ax_ian (pc := 43) C dX7_set_43 rfl (by omega) (by omega) ?_
      refine ax_iconst (pc := 44) (v := 1) C dX7_set_44 (by decide) ?_
      refine ax_isub (pc := 45) C dX7_set_45 ?_
      refine ax_i2l (pc := 46) C dX7_set_46 ?_
      refine ax_callSi (pc := 47) C (w_X7_in F (lo := (0)) rfl rfl) kX7_in mX7_75 dX7_set_47 (by decide) rfl rfl (Nat.le_of_ble_eq_true rfl) rfl ⟨Nat.le_refl _, Nat.le_refl _⟩ ?_
      refine ax_if_ne (pc := 50) (tgt := 59) C dX7_set_50 (by decide) (fun h50 => ?_) (fun h50 => ?_)
      · have h50 := ax_bne h50
        have h50b := h50
        rw [show ax_up (ax_up σ 77 0 0) 77 1 0 79 c = nI len from by rw [up_ne (by decide), up_ne (by decide)]; exact hl2] at h50b
        obtain ⟨u, hu, rfl⟩ := ax_ixN (by omega) h50b
        have eu : (nI u).toNatClampNeg = u := nI_clamp (by omega)
        refine ax_aload_0 (pc := 59) C dX7_set_59 ?_
        refine ax_getR (pc := 60) C fX7_16 dX7_set_60 rfl rfl ?_
        refine ax_bipush (pc := 63) (v := 40) C dX7_set_63 (by decide) ?_
        refine ax_iload_1 (pc := 65) C dX7_set_65 ?_
        refine ax_imul (pc := 66) C dX7_set_66 ?_
        refine ax_iload_2 (pc := 67) C dX7_set_67 ?_
        refine ax_iadd (pc := 68) C dX7_set_68 ?_
        refine ax_aload_0 (pc := 69) C dX7_set_69 ?_
        refine ax_getR (pc := 70) C fX7_7 dX7_set_70 rfl rfl ?_
        refine ax_iload_1 (pc := 73) C dX7_set_73 ?_
        refine ax_ian (pc := 74) C dX7_set_74 rfl (by omega) (by omega) ?_
        refine ax_if_ne (pc := 75) (tgt := 83) C dX7_set_75 (by decide) (fun h75 => ?_) (fun h75 => ?_)
        · refine ax_aload_0 (pc := 83) C dX7_set_83 ?_
          refine ax_getR (pc := 84) C fX7_7 dX7_set_84 rfl rfl ?_
          refine ax_iload_1 (pc := 87) C dX7_set_87 ?_
          refine ax_ian (pc := 88) C dX7_set_88 rfl (by omega) (by omega) ?_
          refine ax_iconst (pc := 89) (v := 1) C dX7_set_89 (by decide) ?_
          refine ax_icmp_ne (pc := 90) (tgt := 98) C dX7_set_90 (by decide) (fun h90 => ?_) (fun h90 => ?_)
          · refine ax_iload_3 (pc := 98) C dX7_set_98 ?_
            refine ax_ise (pc := 99) (c := 40 * c + u) C dX7_set_99 rfl ix40 (by omega) (by decide) ?_
            refine ax_aload_0 (pc := 100) C dX7_set_100 ?_
            refine ax_getR (pc := 101) C fX7_16 dX7_set_101 rfl rfl ?_
            refine ax_bipush (pc := 104) (v := 40) C dX7_set_104 (by decide) ?_
            refine ax_iload_1 (pc := 106) C dX7_set_106 ?_
            refine ax_imul (pc := 107) C dX7_set_107 ?_
            refine ax_iload_2 (pc := 108) C dX7_set_108 ?_
            refine ax_iadd (pc := 109) C dX7_set_109 ?_
            refine ax_iae (pc := 110) (c := 40 * c + u) C dX7_set_110 rfl ix40 (by omega) (by decide) ?_
            exact ax_ir (pc := 111) C rfl dX7_set_111 (by simp only [ec, eu, if_pos h9, if_pos h26, if_pos h50]; rw [up_s, if_neg h75, if_neg h90]) (by simp only [ec, eu]; rw [if_pos h9, if_pos h26, if_pos h50, if_neg h75, if_neg h90])
          · refine ax_iload_3 (pc := 93) C dX7_set_93 ?_
            refine ax_i2s (pc := 94) C dX7_set_94 ?_
            refine ax_goto (pc := 95) (tgt := 99) C dX7_set_95 (by decide) ?_
            refine ax_ise (pc := 99) (c := 40 * c + u) C dX7_set_99 rfl ix40 (by omega) (by decide) ?_
            refine ax_aload_0 (pc := 100) C dX7_set_100 ?_
            refine ax_getR (pc := 101) C fX7_16 dX7_set_101 rfl rfl ?_
            refine ax_bipush (pc := 104) (v := 40) C dX7_set_104 (by decide) ?_
            refine ax_iload_1 (pc := 106) C dX7_set_106 ?_
            refine ax_imul (pc := 107) C dX7_set_107 ?_
            refine ax_iload_2 (pc := 108) C dX7_set_108 ?_
            refine ax_iadd (pc := 109) C dX7_set_109 ?_
            refine ax_iae (pc := 110) (c := 40 * c + u) C dX7_set_110 rfl ix40 (by omega) (by decide) ?_
            exact ax_ir (pc := 111) C rfl dX7_set_111 (by simp only [ec, eu, if_pos h9, if_pos h26, if_pos h50]; rw [up_s, if_neg h75, if_pos h90]) (by simp only [ec, eu]; rw [if_pos h9, if_pos h26, if_pos h50, if_neg h75, if_pos h90])
        · refine ax_iload_3 (pc := 78) C dX7_set_78 ?_
          refine ax_i2b (pc := 79) C dX7_set_79 ?_
          refine ax_goto (pc := 80) (tgt := 99) C dX7_set_80 (by decide) ?_
          refine ax_ise (pc := 99) (c := 40 * c + u) C dX7_set_99 rfl ix40 (by omega) (by decide) ?_
          refine ax_aload_0 (pc := 100) C dX7_set_100 ?_
          refine ax_getR (pc := 101) C fX7_16 dX7_set_101 rfl rfl ?_
          refine ax_bipush (pc := 104) (v := 40) C dX7_set_104 (by decide) ?_
          refine ax_iload_1 (pc := 106) C dX7_set_106 ?_
          refine ax_imul (pc := 107) C dX7_set_107 ?_
          refine ax_iload_2 (pc := 108) C dX7_set_108 ?_
          refine ax_iadd (pc := 109) C dX7_set_109 ?_
          refine ax_iae (pc := 110) (c := 40 * c + u) C dX7_set_110 rfl ix40 (by omega) (by decide) ?_
          exact ax_ir (pc := 111) C rfl dX7_set_111 (by simp only [ec, eu, if_pos h9, if_pos h26, if_pos h50]; rw [up_s, if_pos h75]) (by simp only [ec, eu]; rw [if_pos h9, if_pos h26, if_pos h50, if_pos h75])
      · have h50 := ax_beq h50
        refine ax_aload_0 (pc := 53) C dX7_set_53 ?_
        refine ax_iconst (pc := 54) (v := 2) C dX7_set_54 (by decide) ?_
        refine ax_callVi (pc := 55) C (w_X7_finding F) kX7_finding mX7_86 dX7_set_55 (by decide) rfl rfl rfl rfl rfl (Nat.le_of_ble_eq_true rfl) rfl ⟨Nat.le_refl _, Nat.le_refl _⟩ ?_
        exact ax_ir (pc := 58) C rfl dX7_set_58 (by first | with_reducible rfl | (simp only [h9, h26, h50, if_true, if_false, true_and, and_true, false_and, and_false, not_false_eq_true, not_true_eq_false, ec]; done) | (simp only [h9, h26, h50, if_true, if_false, true_and, and_true, false_and, and_false, not_false_eq_true, not_true_eq_false, ec]; with_reducible rfl)) (by first | with_reducible rfl | (simp only [h9, h26, h50, if_true, if_false, true_and, and_true, false_and, and_false, not_false_eq_true, not_true_eq_false, ec]; done) | (simp only [h9, h26, h50, if_true, if_false, true_and, and_true, false_and, and_false, not_false_eq_true, not_true_eq_false, ec]; with_reducible rfl))
    · refine ax_aload_0 (pc := 29) C dX7_set_29 ?_
      refine ax_iconst (pc := 30) (v := 1) C dX7_set_30 (by decide) ?_
      refine ax_callVi (pc := 31) C (w_X7_finding F) kX7_finding mX7_86 dX7_set_31 (by decide) rfl rfl rfl rfl rfl (Nat.le_of_ble_eq_true rfl) rfl ⟨Nat.le_refl _, Nat.le_refl _⟩ ?_
      exact ax_ir (pc := 34) C rfl dX7_set_34 (by first | with_reducible rfl | (simp only [h9, h26, if_true, if_false, true_and, and_true, false_and, and_false, not_false_eq_true, not_true_eq_false, ec]; done) | (simp only [h9, h26, if_true, if_false, true_and, and_true, false_and, and_false, not_false_eq_true, not_true_eq_false, ec]; with_reducible rfl)) (by first | with_reducible rfl | (simp only [h9, h26, if_true, if_false, true_and, and_true, false_and, and_false, not_false_eq_true, not_true_eq_false, ec]; done) | (simp only [h9, h26, if_true, if_false, true_and, and_true, false_and, and_false, not_false_eq_true, not_true_eq_false, ec]; with_reducible rfl))
  · have h9 := ax_beq h9
    refine ax_ldc (pc := 12) C dX7_set_12 qX7_85 ?_
    exact ax_ir (pc := 14) C rfl dX7_set_14 (by first | with_reducible rfl | (simp only [h9, if_true, if_false, true_and, and_true, false_and, and_false, not_false_eq_true, not_true_eq_false]; done) | (simp only [h9, if_true, if_false, true_and, and_true, false_and, and_false, not_false_eq_true, not_true_eq_false]; with_reducible rfl)) (by first | with_reducible rfl | (simp only [h9, if_true, if_false, true_and, and_true, false_and, and_false, not_false_eq_true, not_true_eq_false]; done) | (simp only [h9, if_true, if_false, true_and, and_true, false_and, and_false, not_false_eq_true, not_true_eq_false]; with_reducible rfl))
