/-! an hour of the reference: the cells 85 and on -/
def mh_st (σ : ax_Z) (hr : Int32) : Nat → Bool := hs_st (σ 86) (σ 89) hr
def mh_rd (σ : ax_Z) (n : Nat) (hr : Int32) : Nat → Bool := hs_rd (σ 85) (σ 86) (σ 88) (σ 89) hr n
def mh_ah (σ : ax_Z) : Nat → Nat → Bool := hs_ah (σ 85) (σ 86) (if σ 77 29 = 0 then fun _ => 0 else σ 92)
def mh_tr (σ : ax_Z) (n : Nat) (hr : Int32) (c : Nat) : Bool := mh_rd σ n hr c || (mh_st σ hr c && decide (σ 85 c < 4))
def mh_f (σ : ax_Z) (n : Nat) (hr : Int32) : Option Nat := hs_f (mh_rd σ n hr) (mh_ah σ) n
def mN (o : Option Nat) : Int32 := match o with
  | none => -1000000
  | some f => nI f
/-- the hour's mask -/
def mh_tm (σ : ax_Z) (n : Nat) (hr : Int32) : Nat := match mh_f σ n hr with
  | none => 0
  | some _ => ms_k (mh_tr σ n hr) n
/-- the state behind the hour h -/
def mh_go (σ : ax_Z) (n h : Nat) : ax_Z := match mh_f σ n (nI h) with
  | none => ax_up σ 91 h (-1000000)
  | some f => ax_up (ax_up (hs_gone (ax_up σ 91 h (nI f)) 89 (mh_tr σ n (nI h)) (nI h) n) 90 f (hs_toll (fun t => σ 81 (2 + t)) (ms_c (mh_tr σ n (nI h)) n))) 92 f (σ 92 f + 1)
theorem nI_neN {f : Nat} (h : f < 16) : ¬ nI f = -1000000 := by
  have : ∀ f : Fin 16, ¬ nI f.1 = -1000000 := by decide
  exact this ⟨f, h⟩
theorem ms_c_pos {f : Nat → Bool} {n c : Nat} (hc : c < n) (hf : f c = true) : 0 < ms_c f n := by
  induction n with
  | zero => omega
  | succ n ih =>
    rw [ms_c_s]
    by_cases e : c = n
    · subst e
      rw [if_pos hf]
      omega
    · have := ih (by omega)
      omega
theorem hs_gone_ne {σ : ax_Z} {k n a : Nat} {tr : Nat → Bool} {v : Int32} (h : a ≠ k) : hs_gone σ k tr v n a = σ a := by
  funext b
  exact if_neg (fun z => h z.1)
/-- the day begins anew -/
def md_an (σ : ax_Z) (n : Nat) : ax_Z := fun x y => if x = 89 ∧ y < n then -1000000 else if x = 90 ∧ y < n then 0 else σ x y
theorem md_an_0 {σ : ax_Z} : md_an σ 0 = σ := by
  funext x y
  unfold md_an
  rw [if_neg (by omega), if_neg (by omega)]
theorem md_an_s {σ : ax_Z} {n : Nat} : ax_up (ax_up (md_an σ n) 89 n (-1000000)) 90 n 0 = md_an σ (n + 1) := by
  funext x y
  unfold ax_up md_an
  by_cases e1 : x = 90 ∧ y = n
  · rw [if_pos e1, if_neg (by omega), if_pos (by omega)]
  · rw [if_neg e1]
    by_cases e2 : x = 89 ∧ y = n
    · rw [if_pos e2, if_pos (by omega)]
    · rw [if_neg e2]
      have a1 : (x = 89 ∧ y < n + 1) ↔ (x = 89 ∧ y < n) := by omega
      have a2 : (x = 90 ∧ y < n + 1) ↔ (x = 90 ∧ y < n) := by omega
      simp only [a1, a2]
theorem md_an_ne {σ : ax_Z} {n a : Nat} (h : a ≠ 89 ∧ a ≠ 90) : md_an σ n a = σ a := by
  funext y
  unfold md_an
  rw [if_neg (by omega), if_neg (by omega)]
def md_h (σ : ax_Z) (n : Nat) : Nat → ax_Z
  | 0 => md_an σ n
  | h + 1 => mh_go (md_h σ n h) n h
def md_go (σ : ax_Z) (n : Nat) : ax_Z := md_h σ n 12
theorem mh_go_ne {σ : ax_Z} {n h a : Nat} (hh : a < 89 ∨ 92 < a) : mh_go σ n h a = σ a := by
  unfold mh_go
  cases mh_f σ n (nI h) with
  | none => exact up_ne (by omega)
  | some f => exact (up_ne (by omega)).trans ((up_ne (by omega)).trans ((hs_gone_ne (by omega)).trans (up_ne (by omega))))
theorem md_h_ne {σ : ax_Z} {n h a : Nat} (hh : a < 89 ∨ 92 < a) : md_h σ n h a = σ a := by
  induction h with
  | zero => exact md_an_ne (by omega)
  | succ h ih => rw [md_h, mh_go_ne hh, ih]
theorem md_go_ne {σ : ax_Z} {n a : Nat} (hh : a < 89 ∨ 92 < a) : md_go σ n a = σ a := md_h_ne hh

set_option maxRecDepth 20000 in
set_option maxHeartbeats 4000000 in
theorem w_X7_stands {Y : ax_Y} {ad : Nat → Nat} (F : ax_F Y) {l : Launch} {σ : ax_Z} {c : Nat} (hc : c < 7) {hr : Int32} : ax_m Y ad l iX7_stands 0 σ [.ref (ad 77), .int (nI c), .int hr] (some (.int (ax_b (mh_st σ hr c = true)))) σ := by
  refine ax_m.of F kX7_stands.1 [some (.ref (ad 77)), some (.int (nI c)), some (.int (hr))] rfl (Nat.le_of_ble_eq_true rfl) (fun x C => ?_)
  refine ax_aload_0 (pc := 0) C dX7_stands_0 ?_
  refine ax_getR (pc := 1) C fX7_34 dX7_stands_1 rfl rfl ?_
  refine ax_iload_1 (pc := 4) C dX7_stands_4 ?_
  refine ax_ian (pc := 5) C dX7_stands_5 rfl (by omega) (by omega) ?_
  refine ax_iload_2 (pc := 6) C dX7_stands_6 ?_
  refine ax_icmp_gt (pc := 7) (tgt := 25) C dX7_stands_7 (by decide) (fun h7 => ?_) (fun h7 => ?_)
  · refine ax_iconst (pc := 25) (v := 0) C dX7_stands_25 (by decide) ?_
    exact ax_zr (pc := 26) C rfl (by first | rfl | (unfold ax_b; split <;> rfl)) dX7_stands_26 (by simp_all [mh_st, hs_st, ax_b, ← Int32.not_lt]) rfl
  · refine ax_aload_0 (pc := 10) C dX7_stands_10 ?_
    refine ax_getR (pc := 11) C fX7_43 dX7_stands_11 rfl rfl ?_
    refine ax_iload_1 (pc := 14) C dX7_stands_14 ?_
    refine ax_ian (pc := 15) C dX7_stands_15 rfl (by omega) (by omega) ?_
    refine ax_ldc (pc := 16) C dX7_stands_16 qX7_101 ?_
    refine ax_icmp_ne (pc := 18) (tgt := 25) C dX7_stands_18 (by decide) (fun h18 => ?_) (fun h18 => ?_)
    · refine ax_iconst (pc := 25) (v := 0) C dX7_stands_25 (by decide) ?_
      exact ax_zr (pc := 26) C rfl (by first | rfl | (unfold ax_b; split <;> rfl)) dX7_stands_26 (by simp_all [mh_st, hs_st, ax_b, ← Int32.not_lt]) rfl
    · refine ax_iconst (pc := 21) (v := 1) C dX7_stands_21 (by decide) ?_
      refine ax_goto (pc := 22) (tgt := 26) C dX7_stands_22 (by decide) ?_
      exact ax_zr (pc := 26) C rfl (by first | rfl | (unfold ax_b; split <;> rfl)) dX7_stands_26 (by simp_all [mh_st, hs_st, ax_b, ← Int32.not_lt]) rfl

set_option maxRecDepth 20000 in
set_option maxHeartbeats 4000000 in
theorem w_X7_standing {Y : ax_Y} {ad : Nat → Nat} (F : ax_F Y) {l : Launch} {σ : ax_Z} {n : Nat} (hn : σ 77 20 = nI n) (h7 : n ≤ 7) {hr : Int32} : ax_m Y ad l iX7_standing 1 σ [.ref (ad 77), .int hr] (some (.int (nI (ms_c (mh_st σ hr) n)))) σ := by
  refine ax_m.of F kX7_standing.1 [some (.ref (ad 77)), some (.int (hr)), none, none] rfl (Nat.le_of_ble_eq_true rfl) (fun x C => ?_)
  have loop : ∀ (q : Nat) (c : Nat), c ≤ n → n < c + q → ax_S x Y ad 0 0 (ax_Q x Y ad (some (.int (nI (ms_c (mh_st σ hr) n)))) 96 (ax_g Y ad σ) 0 0) σ 4 [some (.ref (ad 77)), some (.int (hr)), some (.int (nI (ms_c (mh_st σ hr) c))), some (.int (nI c))] [] := by
    intro q
    induction q with
    | zero => intro c h1 h2; exfalso; omega
    | succ q ih =>
      intro c h1 h2
      refine ax_iload_3 (pc := 4) C dX7_standing_4 ?_
      refine ax_aload_0 (pc := 5) C dX7_standing_5 ?_
      refine ax_getI (pc := 6) C fX7_195 dX7_standing_6 rfl rfl ?_
      refine ax_icmp_ge (pc := 9) (tgt := 35) C dX7_standing_9 (by decide) (fun h9 => ?_) (fun h9 => ?_)
      · have hcn : ¬ c < n := fun q => nI_ge q (by omega) (by rw [← hn]; exact h9)
        refine ax_iload_2 (pc := 35) C dX7_standing_35 ?_
        exact ax_ir (pc := 36) C rfl dX7_standing_36 (by rw [show c = n by omega]) rfl
      · have hcn : c < n := Nat.lt_of_not_le (fun q => h9 (by rw [hn]; exact nI_le q (by omega)))
        refine ax_iload_2 (pc := 12) C dX7_standing_12 ?_
        refine ax_aload_0 (pc := 13) C dX7_standing_13 ?_
        refine ax_iload_3 (pc := 14) C dX7_standing_14 ?_
        refine ax_iload_1 (pc := 15) C dX7_standing_15 ?_
        refine ax_callVi (pc := 16) C (w_X7_stands F (by omega)) kX7_stands mX7_204 dX7_standing_16 (by decide) rfl rfl rfl rfl rfl (Nat.le_of_ble_eq_true rfl) rfl ⟨Nat.le_refl _, Nat.le_refl _⟩ ?_
        refine ax_if_eq (pc := 19) (tgt := 26) C dX7_standing_19 (by decide) (fun h19 => ?_) (fun h19 => ?_)
        · have h19 := ax_beq h19
          refine ax_iconst (pc := 26) (v := 0) C dX7_standing_26 (by decide) ?_
          refine ax_iadd (pc := 27) C dX7_standing_27 ?_
          refine ax_istore_2 (pc := 28) C dX7_standing_28 rfl ?_
          refine ax_iinc_3 (pc := 29) C dX7_standing_29 (1) (by decide) rfl ?_
          refine ax_goto (pc := 32) (tgt := 4) C dX7_standing_32 (by decide) ?_
          refine ax_Leq ?_ (ih (c + 1) (by omega) (by omega))
          rw [ms_c_s, if_neg h19, nI_1]
          simp only [Nat.add_zero, Int32.add_zero]
        · have h19 := ax_bne h19
          refine ax_iconst (pc := 22) (v := 1) C dX7_standing_22 (by decide) ?_
          refine ax_goto (pc := 23) (tgt := 27) C dX7_standing_23 (by decide) ?_
          refine ax_iadd (pc := 27) C dX7_standing_27 ?_
          refine ax_istore_2 (pc := 28) C dX7_standing_28 rfl ?_
          refine ax_iinc_3 (pc := 29) C dX7_standing_29 (1) (by decide) rfl ?_
          refine ax_goto (pc := 32) (tgt := 4) C dX7_standing_32 (by decide) ?_
          refine ax_Leq ?_ (ih (c + 1) (by omega) (by omega))
          rw [ms_c_s, if_pos h19, nI_1, nI_1]
  refine ax_iconst (pc := 0) (v := 0) C dX7_standing_0 (by decide) ?_
  refine ax_istore_2 (pc := 1) C dX7_standing_1 rfl ?_
  refine ax_iconst (pc := 2) (v := 0) C dX7_standing_2 (by decide) ?_
  refine ax_istore_3 (pc := 3) C dX7_standing_3 rfl ?_
  exact loop (n + 1) 0 (by omega) (by omega)

set_option maxRecDepth 20000 in
set_option maxHeartbeats 4000000 in
theorem w_X7_isReady {Y : ax_Y} {ad : Nat → Nat} (F : ax_F Y) {l : Launch} {σ : ax_Z} {n : Nat} (hn : σ 77 20 = nI n) (h7 : n ≤ 7) {c : Nat} (hc : c < 7) {hr : Int32} : ax_m Y ad l iX7_isReady 2 σ [.ref (ad 77), .int (nI c), .int hr] (some (.int (ax_b (mh_rd σ n hr c = true)))) σ := by
  refine ax_m.of F kX7_isReady.1 [some (.ref (ad 77)), some (.int (nI c)), some (.int (hr)), none] rfl (Nat.le_of_ble_eq_true rfl) (fun x C => ?_)
  refine ax_aload_0 (pc := 0) C dX7_isReady_0 ?_
  refine ax_iload_1 (pc := 1) C dX7_isReady_1 ?_
  refine ax_iload_2 (pc := 2) C dX7_isReady_2 ?_
  refine ax_callVi (pc := 3) C (w_X7_stands F (by omega)) kX7_stands mX7_204 dX7_isReady_3 (by decide) rfl rfl rfl rfl rfl (Nat.le_of_ble_eq_true rfl) rfl ⟨Nat.le_refl _, Nat.le_refl _⟩ ?_
  refine ax_if_ne (pc := 6) (tgt := 11) C dX7_isReady_6 (by decide) (fun h6 => ?_) (fun h6 => ?_)
  · have h6 := ax_bne h6
    refine ax_iload_2 (pc := 11) C dX7_isReady_11 ?_
    refine ax_aload_0 (pc := 12) C dX7_isReady_12 ?_
    refine ax_getR (pc := 13) C fX7_34 dX7_isReady_13 rfl rfl ?_
    refine ax_iload_1 (pc := 16) C dX7_isReady_16 ?_
    refine ax_ian (pc := 17) C dX7_isReady_17 rfl (by omega) (by omega) ?_
    refine ax_aload_0 (pc := 18) C dX7_isReady_18 ?_
    refine ax_getR (pc := 19) C fX7_40 dX7_isReady_19 rfl rfl ?_
    refine ax_iload_1 (pc := 22) C dX7_isReady_22 ?_
    refine ax_ian (pc := 23) C dX7_isReady_23 rfl (by omega) (by omega) ?_
    refine ax_iadd (pc := 24) C dX7_isReady_24 ?_
    refine ax_icmp_lt (pc := 25) (tgt := 32) C dX7_isReady_25 (by decide) (fun h25 => ?_) (fun h25 => ?_)
    · refine ax_iconst (pc := 32) (v := 0) C dX7_isReady_32 (by decide) ?_
      refine ax_istore_3 (pc := 33) C dX7_isReady_33 rfl ?_
      refine ax_aload_0 (pc := 34) C dX7_isReady_34 ?_
      refine ax_getR (pc := 35) C fX7_31 dX7_isReady_35 rfl rfl ?_
      refine ax_iload_1 (pc := 38) C dX7_isReady_38 ?_
      refine ax_ian (pc := 39) C dX7_isReady_39 rfl (by omega) (by omega) ?_
      rcases hs_kd (σ 85 c) with hk | hk | hk | hk | hk
      · refine ax_val C hk ?_
        refine ax_tabIn (pc := 40) (off := 46) (tgt := 86) C dX7_isReady_40 (by decide) (by decide) (by decide) (by decide) ?_
        refine ax_iload_2 (pc := 86) C dX7_isReady_86 ?_
        refine ax_bipush (pc := 87) (v := 11) C dX7_isReady_87 (by decide) ?_
        refine ax_icmp_eq (pc := 89) (tgt := 105) C dX7_isReady_89 (by decide) (fun h89 => ?_) (fun h89 => ?_)
        · refine ax_iconst (pc := 105) (v := 1) C dX7_isReady_105 (by decide) ?_
          refine ax_goto (pc := 106) (tgt := 110) C dX7_isReady_106 (by decide) ?_
          exact ax_zr (pc := 110) C rfl (by first | rfl | (unfold ax_b; split <;> rfl)) dX7_isReady_110 (by simp_all [mh_rd, mh_st, hs_rd, hs_r1, ax_b, ← Int32.not_lt]) rfl
        · refine ax_iload_3 (pc := 92) C dX7_isReady_92 ?_
          refine ax_if_ne (pc := 93) (tgt := 105) C dX7_isReady_93 (by decide) (fun z => False.elim (absurd z (by decide))) (fun _ => ?_)
          refine ax_aload_0 (pc := 96) C dX7_isReady_96 ?_
          refine ax_iload_2 (pc := 97) C dX7_isReady_97 ?_
          refine ax_callVi (pc := 98) C (w_X7_standing F hn h7) kX7_standing mX7_208 dX7_isReady_98 (by decide) rfl rfl rfl rfl rfl (Nat.le_of_ble_eq_true rfl) rfl ⟨Nat.le_refl _, Nat.le_refl _⟩ ?_
          refine ax_iconst (pc := 101) (v := 3) C dX7_isReady_101 (by decide) ?_
          refine ax_icmp_lt (pc := 102) (tgt := 109) C dX7_isReady_102 (by decide) (fun h102 => ?_) (fun h102 => ?_)
          · have hcc := ms_c_le (mh_st σ hr) n
            have h3 : ¬ 3 ≤ ms_c (mh_st σ hr) n := fun q => nI_nlt (a := ms_c (mh_st σ hr) n) (b := 3) q (by omega) h102
            clear h102
            refine ax_iconst (pc := 109) (v := 0) C dX7_isReady_109 (by decide) ?_
            exact ax_zr (pc := 110) C rfl (by first | rfl | (unfold ax_b; split <;> rfl)) dX7_isReady_110 (by simp_all [mh_rd, mh_st, hs_rd, hs_r1, ax_b, ← Int32.not_lt]) rfl
          · have hcc := ms_c_le (mh_st σ hr) n
            have h3 :  3 ≤ ms_c (mh_st σ hr) n := Nat.le_of_not_lt (fun q => h102 (nI_lt (b := 3) q (by omega)))
            clear h102
            refine ax_iconst (pc := 105) (v := 1) C dX7_isReady_105 (by decide) ?_
            refine ax_goto (pc := 106) (tgt := 110) C dX7_isReady_106 (by decide) ?_
            exact ax_zr (pc := 110) C rfl (by first | rfl | (unfold ax_b; split <;> rfl)) dX7_isReady_110 (by simp_all [mh_rd, mh_st, hs_rd, hs_r1, ax_b, ← Int32.not_lt]) rfl
      · refine ax_val C hk ?_
        refine ax_tabIn (pc := 40) (off := 34) (tgt := 74) C dX7_isReady_40 (by decide) (by decide) (by decide) (by decide) ?_
        refine ax_iload_2 (pc := 74) C dX7_isReady_74 ?_
        refine ax_bipush (pc := 75) (v := 11) C dX7_isReady_75 (by decide) ?_
        refine ax_icmp_ne (pc := 77) (tgt := 84) C dX7_isReady_77 (by decide) (fun h77 => ?_) (fun h77 => ?_)
        · refine ax_iconst (pc := 84) (v := 0) C dX7_isReady_84 (by decide) ?_
          exact ax_zr (pc := 85) C rfl (by first | rfl | (unfold ax_b; split <;> rfl)) dX7_isReady_85 (by simp_all [mh_rd, mh_st, hs_rd, hs_r1, ax_b, ← Int32.not_lt]) rfl
        · refine ax_iconst (pc := 80) (v := 1) C dX7_isReady_80 (by decide) ?_
          refine ax_goto (pc := 81) (tgt := 85) C dX7_isReady_81 (by decide) ?_
          exact ax_zr (pc := 85) C rfl (by first | rfl | (unfold ax_b; split <;> rfl)) dX7_isReady_85 (by simp_all [mh_rd, mh_st, hs_rd, hs_r1, ax_b, ← Int32.not_lt]) rfl
      · refine ax_val C hk ?_
        refine ax_tabIn (pc := 40) (off := 71) (tgt := 111) C dX7_isReady_40 (by decide) (by decide) (by decide) (by decide) ?_
        refine ax_iload_2 (pc := 111) C dX7_isReady_111 ?_
        refine ax_bipush (pc := 112) (v := 11) C dX7_isReady_112 (by decide) ?_
        refine ax_icmp_eq (pc := 114) (tgt := 121) C dX7_isReady_114 (by decide) (fun h114 => ?_) (fun h114 => ?_)
        · refine ax_iconst (pc := 121) (v := 1) C dX7_isReady_121 (by decide) ?_
          refine ax_goto (pc := 122) (tgt := 126) C dX7_isReady_122 (by decide) ?_
          exact ax_zr (pc := 126) C rfl (by first | rfl | (unfold ax_b; split <;> rfl)) dX7_isReady_126 (by simp_all [mh_rd, mh_st, hs_rd, hs_r1, ax_b, ← Int32.not_lt]) rfl
        · refine ax_iload_3 (pc := 117) C dX7_isReady_117 ?_
          refine ax_if_eq (pc := 118) (tgt := 125) C dX7_isReady_118 (by decide) (fun _ => ?_) (fun z => False.elim (absurd z (by decide)))
          refine ax_iconst (pc := 125) (v := 0) C dX7_isReady_125 (by decide) ?_
          exact ax_zr (pc := 126) C rfl (by first | rfl | (unfold ax_b; split <;> rfl)) dX7_isReady_126 (by simp_all [mh_rd, mh_st, hs_rd, hs_r1, ax_b, ← Int32.not_lt]) rfl
      · refine ax_val C hk ?_
        refine ax_tabIn (pc := 40) (off := 32) (tgt := 72) C dX7_isReady_40 (by decide) (by decide) (by decide) (by decide) ?_
        refine ax_iconst (pc := 72) (v := 1) C dX7_isReady_72 (by decide) ?_
        exact ax_zr (pc := 73) C rfl (by first | rfl | (unfold ax_b; split <;> rfl)) dX7_isReady_73 (by simp_all [mh_rd, mh_st, hs_rd, hs_r1, ax_b, ← Int32.not_lt]) rfl
      · refine ax_tabOut (pc := 40) (tgt := 111) C dX7_isReady_40 hk (by decide) ?_
        obtain ⟨k5, k3, k2⟩ := hs_kd_ne hk
        refine ax_iload_2 (pc := 111) C dX7_isReady_111 ?_
        refine ax_bipush (pc := 112) (v := 11) C dX7_isReady_112 (by decide) ?_
        refine ax_icmp_eq (pc := 114) (tgt := 121) C dX7_isReady_114 (by decide) (fun h114 => ?_) (fun h114 => ?_)
        · refine ax_iconst (pc := 121) (v := 1) C dX7_isReady_121 (by decide) ?_
          refine ax_goto (pc := 122) (tgt := 126) C dX7_isReady_122 (by decide) ?_
          exact ax_zr (pc := 126) C rfl (by first | rfl | (unfold ax_b; split <;> rfl)) dX7_isReady_126 (by simp_all [mh_rd, mh_st, hs_rd, hs_r1, ax_b, ← Int32.not_lt]) rfl
        · refine ax_iload_3 (pc := 117) C dX7_isReady_117 ?_
          refine ax_if_eq (pc := 118) (tgt := 125) C dX7_isReady_118 (by decide) (fun _ => ?_) (fun z => False.elim (absurd z (by decide)))
          refine ax_iconst (pc := 125) (v := 0) C dX7_isReady_125 (by decide) ?_
          exact ax_zr (pc := 126) C rfl (by first | rfl | (unfold ax_b; split <;> rfl)) dX7_isReady_126 (by simp_all [mh_rd, mh_st, hs_rd, hs_r1, ax_b, ← Int32.not_lt]) rfl
    · refine ax_iconst (pc := 28) (v := 1) C dX7_isReady_28 (by decide) ?_
      refine ax_goto (pc := 29) (tgt := 33) C dX7_isReady_29 (by decide) ?_
      refine ax_istore_3 (pc := 33) C dX7_isReady_33 rfl ?_
      refine ax_aload_0 (pc := 34) C dX7_isReady_34 ?_
      refine ax_getR (pc := 35) C fX7_31 dX7_isReady_35 rfl rfl ?_
      refine ax_iload_1 (pc := 38) C dX7_isReady_38 ?_
      refine ax_ian (pc := 39) C dX7_isReady_39 rfl (by omega) (by omega) ?_
      rcases hs_kd (σ 85 c) with hk | hk | hk | hk | hk
      · refine ax_val C hk ?_
        refine ax_tabIn (pc := 40) (off := 46) (tgt := 86) C dX7_isReady_40 (by decide) (by decide) (by decide) (by decide) ?_
        refine ax_iload_2 (pc := 86) C dX7_isReady_86 ?_
        refine ax_bipush (pc := 87) (v := 11) C dX7_isReady_87 (by decide) ?_
        refine ax_icmp_eq (pc := 89) (tgt := 105) C dX7_isReady_89 (by decide) (fun h89 => ?_) (fun h89 => ?_)
        · refine ax_iconst (pc := 105) (v := 1) C dX7_isReady_105 (by decide) ?_
          refine ax_goto (pc := 106) (tgt := 110) C dX7_isReady_106 (by decide) ?_
          exact ax_zr (pc := 110) C rfl (by first | rfl | (unfold ax_b; split <;> rfl)) dX7_isReady_110 (by simp_all [mh_rd, mh_st, hs_rd, hs_r1, ax_b, ← Int32.not_lt]) rfl
        · refine ax_iload_3 (pc := 92) C dX7_isReady_92 ?_
          refine ax_if_ne (pc := 93) (tgt := 105) C dX7_isReady_93 (by decide) (fun _ => ?_) (fun z => False.elim (absurd z (by decide)))
          refine ax_iconst (pc := 105) (v := 1) C dX7_isReady_105 (by decide) ?_
          refine ax_goto (pc := 106) (tgt := 110) C dX7_isReady_106 (by decide) ?_
          exact ax_zr (pc := 110) C rfl (by first | rfl | (unfold ax_b; split <;> rfl)) dX7_isReady_110 (by simp_all [mh_rd, mh_st, hs_rd, hs_r1, ax_b, ← Int32.not_lt]) rfl
      · refine ax_val C hk ?_
        refine ax_tabIn (pc := 40) (off := 34) (tgt := 74) C dX7_isReady_40 (by decide) (by decide) (by decide) (by decide) ?_
        refine ax_iload_2 (pc := 74) C dX7_isReady_74 ?_
        refine ax_bipush (pc := 75) (v := 11) C dX7_isReady_75 (by decide) ?_
        refine ax_icmp_ne (pc := 77) (tgt := 84) C dX7_isReady_77 (by decide) (fun h77 => ?_) (fun h77 => ?_)
        · refine ax_iconst (pc := 84) (v := 0) C dX7_isReady_84 (by decide) ?_
          exact ax_zr (pc := 85) C rfl (by first | rfl | (unfold ax_b; split <;> rfl)) dX7_isReady_85 (by simp_all [mh_rd, mh_st, hs_rd, hs_r1, ax_b, ← Int32.not_lt]) rfl
        · refine ax_iconst (pc := 80) (v := 1) C dX7_isReady_80 (by decide) ?_
          refine ax_goto (pc := 81) (tgt := 85) C dX7_isReady_81 (by decide) ?_
          exact ax_zr (pc := 85) C rfl (by first | rfl | (unfold ax_b; split <;> rfl)) dX7_isReady_85 (by simp_all [mh_rd, mh_st, hs_rd, hs_r1, ax_b, ← Int32.not_lt]) rfl
      · refine ax_val C hk ?_
        refine ax_tabIn (pc := 40) (off := 71) (tgt := 111) C dX7_isReady_40 (by decide) (by decide) (by decide) (by decide) ?_
        refine ax_iload_2 (pc := 111) C dX7_isReady_111 ?_
        refine ax_bipush (pc := 112) (v := 11) C dX7_isReady_112 (by decide) ?_
        refine ax_icmp_eq (pc := 114) (tgt := 121) C dX7_isReady_114 (by decide) (fun h114 => ?_) (fun h114 => ?_)
        · refine ax_iconst (pc := 121) (v := 1) C dX7_isReady_121 (by decide) ?_
          refine ax_goto (pc := 122) (tgt := 126) C dX7_isReady_122 (by decide) ?_
          exact ax_zr (pc := 126) C rfl (by first | rfl | (unfold ax_b; split <;> rfl)) dX7_isReady_126 (by simp_all [mh_rd, mh_st, hs_rd, hs_r1, ax_b, ← Int32.not_lt]) rfl
        · refine ax_iload_3 (pc := 117) C dX7_isReady_117 ?_
          refine ax_if_eq (pc := 118) (tgt := 125) C dX7_isReady_118 (by decide) (fun z => False.elim (absurd z (by decide))) (fun _ => ?_)
          refine ax_iconst (pc := 121) (v := 1) C dX7_isReady_121 (by decide) ?_
          refine ax_goto (pc := 122) (tgt := 126) C dX7_isReady_122 (by decide) ?_
          exact ax_zr (pc := 126) C rfl (by first | rfl | (unfold ax_b; split <;> rfl)) dX7_isReady_126 (by simp_all [mh_rd, mh_st, hs_rd, hs_r1, ax_b, ← Int32.not_lt]) rfl
      · refine ax_val C hk ?_
        refine ax_tabIn (pc := 40) (off := 32) (tgt := 72) C dX7_isReady_40 (by decide) (by decide) (by decide) (by decide) ?_
        refine ax_iconst (pc := 72) (v := 1) C dX7_isReady_72 (by decide) ?_
        exact ax_zr (pc := 73) C rfl (by first | rfl | (unfold ax_b; split <;> rfl)) dX7_isReady_73 (by simp_all [mh_rd, mh_st, hs_rd, hs_r1, ax_b, ← Int32.not_lt]) rfl
      · refine ax_tabOut (pc := 40) (tgt := 111) C dX7_isReady_40 hk (by decide) ?_
        obtain ⟨k5, k3, k2⟩ := hs_kd_ne hk
        refine ax_iload_2 (pc := 111) C dX7_isReady_111 ?_
        refine ax_bipush (pc := 112) (v := 11) C dX7_isReady_112 (by decide) ?_
        refine ax_icmp_eq (pc := 114) (tgt := 121) C dX7_isReady_114 (by decide) (fun h114 => ?_) (fun h114 => ?_)
        · refine ax_iconst (pc := 121) (v := 1) C dX7_isReady_121 (by decide) ?_
          refine ax_goto (pc := 122) (tgt := 126) C dX7_isReady_122 (by decide) ?_
          exact ax_zr (pc := 126) C rfl (by first | rfl | (unfold ax_b; split <;> rfl)) dX7_isReady_126 (by simp_all [mh_rd, mh_st, hs_rd, hs_r1, ax_b, ← Int32.not_lt]) rfl
        · refine ax_iload_3 (pc := 117) C dX7_isReady_117 ?_
          refine ax_if_eq (pc := 118) (tgt := 125) C dX7_isReady_118 (by decide) (fun z => False.elim (absurd z (by decide))) (fun _ => ?_)
          refine ax_iconst (pc := 121) (v := 1) C dX7_isReady_121 (by decide) ?_
          refine ax_goto (pc := 122) (tgt := 126) C dX7_isReady_122 (by decide) ?_
          exact ax_zr (pc := 126) C rfl (by first | rfl | (unfold ax_b; split <;> rfl)) dX7_isReady_126 (by simp_all [mh_rd, mh_st, hs_rd, hs_r1, ax_b, ← Int32.not_lt]) rfl
  · have h6 := ax_beq h6
    refine ax_iconst (pc := 9) (v := 0) C dX7_isReady_9 (by decide) ?_
    exact ax_zr (pc := 10) C rfl (by first | rfl | (unfold ax_b; split <;> rfl)) dX7_isReady_10 (by simp_all [mh_rd, mh_st, hs_rd, hs_r1, ax_b, ← Int32.not_lt]) rfl

set_option maxRecDepth 20000 in
set_option maxHeartbeats 4000000 in
theorem w_X7_isAhead {Y : ax_Y} {ad : Nat → Nat} (F : ax_F Y) {l : Launch} {σ : ax_Z} {c d : Nat} (hc : c < 7) (hd : d < 7) : ax_m Y ad l iX7_isAhead 0 σ [.ref (ad 77), .int (nI c), .int (nI d)] (some (.int (ax_b (mh_ah σ c d = true)))) σ := by
  refine ax_m.of F kX7_isAhead.1 [some (.ref (ad 77)), some (.int (nI c)), some (.int (nI d))] rfl (Nat.le_of_ble_eq_true rfl) (fun x C => ?_)
  refine ax_aload_0 (pc := 0) C dX7_isAhead_0 ?_
  refine ax_getR (pc := 1) C fX7_31 dX7_isAhead_1 rfl rfl ?_
  refine ax_iload_1 (pc := 4) C dX7_isAhead_4 ?_
  refine ax_ian (pc := 5) C dX7_isAhead_5 rfl (by omega) (by omega) ?_
  refine ax_iconst (pc := 6) (v := 3) C dX7_isAhead_6 (by decide) ?_
  refine ax_icmp_ne (pc := 7) (tgt := 14) C dX7_isAhead_7 (by decide) (fun h7 => ?_) (fun h7 => ?_)
  · refine ax_iconst (pc := 14) (v := 0) C dX7_isAhead_14 (by decide) ?_
    refine ax_aload_0 (pc := 15) C dX7_isAhead_15 ?_
    refine ax_getR (pc := 16) C fX7_31 dX7_isAhead_16 rfl rfl ?_
    refine ax_iload_2 (pc := 19) C dX7_isAhead_19 ?_
    refine ax_ian (pc := 20) C dX7_isAhead_20 rfl (by omega) (by omega) ?_
    refine ax_iconst (pc := 21) (v := 3) C dX7_isAhead_21 (by decide) ?_
    refine ax_icmp_ne (pc := 22) (tgt := 29) C dX7_isAhead_22 (by decide) (fun h22 => ?_) (fun h22 => ?_)
    · refine ax_iconst (pc := 29) (v := 0) C dX7_isAhead_29 (by decide) ?_
      refine ax_icmp_eq (pc := 30) (tgt := 49) C dX7_isAhead_30 (by decide) (fun _ => ?_) (fun z => False.elim (absurd z (by decide)))
      refine ax_aload_0 (pc := 49) C dX7_isAhead_49 ?_
      refine ax_getI (pc := 50) C fX7_198 dX7_isAhead_50 rfl rfl ?_
      refine ax_if_eq (pc := 53) (tgt := 92) C dX7_isAhead_53 (by decide) (fun h53 => ?_) (fun h53 => ?_)
      · refine ax_aload_0 (pc := 92) C dX7_isAhead_92 ?_
        refine ax_getR (pc := 93) C fX7_34 dX7_isAhead_93 rfl rfl ?_
        refine ax_iload_1 (pc := 96) C dX7_isAhead_96 ?_
        refine ax_ian (pc := 97) C dX7_isAhead_97 rfl (by omega) (by omega) ?_
        refine ax_aload_0 (pc := 98) C dX7_isAhead_98 ?_
        refine ax_getR (pc := 99) C fX7_34 dX7_isAhead_99 rfl rfl ?_
        refine ax_iload_2 (pc := 102) C dX7_isAhead_102 ?_
        refine ax_ian (pc := 103) C dX7_isAhead_103 rfl (by omega) (by omega) ?_
        refine ax_icmp_ge (pc := 104) (tgt := 111) C dX7_isAhead_104 (by decide) (fun h104 => ?_) (fun h104 => ?_)
        · refine ax_iconst (pc := 111) (v := 0) C dX7_isAhead_111 (by decide) ?_
          exact ax_zr (pc := 112) C rfl (by first | rfl | (unfold ax_b; split <;> rfl)) dX7_isAhead_112 (by simp_all [mh_ah, hs_ah, ax_b, ← Int32.not_lt]) rfl
        · refine ax_iconst (pc := 107) (v := 1) C dX7_isAhead_107 (by decide) ?_
          refine ax_goto (pc := 108) (tgt := 112) C dX7_isAhead_108 (by decide) ?_
          exact ax_zr (pc := 112) C rfl (by first | rfl | (unfold ax_b; split <;> rfl)) dX7_isAhead_112 (by simp_all [mh_ah, hs_ah, ax_b, ← Int32.not_lt]) rfl
      · refine ax_aload_0 (pc := 56) C dX7_isAhead_56 ?_
        refine ax_getR (pc := 57) C fX7_52 dX7_isAhead_57 rfl rfl ?_
        refine ax_iload_1 (pc := 60) C dX7_isAhead_60 ?_
        refine ax_ian (pc := 61) C dX7_isAhead_61 rfl (by omega) (by omega) ?_
        refine ax_aload_0 (pc := 62) C dX7_isAhead_62 ?_
        refine ax_getR (pc := 63) C fX7_52 dX7_isAhead_63 rfl rfl ?_
        refine ax_iload_2 (pc := 66) C dX7_isAhead_66 ?_
        refine ax_ian (pc := 67) C dX7_isAhead_67 rfl (by omega) (by omega) ?_
        refine ax_icmp_eq (pc := 68) (tgt := 92) C dX7_isAhead_68 (by decide) (fun h68 => ?_) (fun h68 => ?_)
        · refine ax_aload_0 (pc := 92) C dX7_isAhead_92 ?_
          refine ax_getR (pc := 93) C fX7_34 dX7_isAhead_93 rfl rfl ?_
          refine ax_iload_1 (pc := 96) C dX7_isAhead_96 ?_
          refine ax_ian (pc := 97) C dX7_isAhead_97 rfl (by omega) (by omega) ?_
          refine ax_aload_0 (pc := 98) C dX7_isAhead_98 ?_
          refine ax_getR (pc := 99) C fX7_34 dX7_isAhead_99 rfl rfl ?_
          refine ax_iload_2 (pc := 102) C dX7_isAhead_102 ?_
          refine ax_ian (pc := 103) C dX7_isAhead_103 rfl (by omega) (by omega) ?_
          refine ax_icmp_ge (pc := 104) (tgt := 111) C dX7_isAhead_104 (by decide) (fun h104 => ?_) (fun h104 => ?_)
          · refine ax_iconst (pc := 111) (v := 0) C dX7_isAhead_111 (by decide) ?_
            exact ax_zr (pc := 112) C rfl (by first | rfl | (unfold ax_b; split <;> rfl)) dX7_isAhead_112 (by simp_all [mh_ah, hs_ah, ax_b, ← Int32.not_lt]) rfl
          · refine ax_iconst (pc := 107) (v := 1) C dX7_isAhead_107 (by decide) ?_
            refine ax_goto (pc := 108) (tgt := 112) C dX7_isAhead_108 (by decide) ?_
            exact ax_zr (pc := 112) C rfl (by first | rfl | (unfold ax_b; split <;> rfl)) dX7_isAhead_112 (by simp_all [mh_ah, hs_ah, ax_b, ← Int32.not_lt]) rfl
        · refine ax_aload_0 (pc := 71) C dX7_isAhead_71 ?_
          refine ax_getR (pc := 72) C fX7_52 dX7_isAhead_72 rfl rfl ?_
          refine ax_iload_1 (pc := 75) C dX7_isAhead_75 ?_
          refine ax_ian (pc := 76) C dX7_isAhead_76 rfl (by omega) (by omega) ?_
          refine ax_aload_0 (pc := 77) C dX7_isAhead_77 ?_
          refine ax_getR (pc := 78) C fX7_52 dX7_isAhead_78 rfl rfl ?_
          refine ax_iload_2 (pc := 81) C dX7_isAhead_81 ?_
          refine ax_ian (pc := 82) C dX7_isAhead_82 rfl (by omega) (by omega) ?_
          refine ax_icmp_ge (pc := 83) (tgt := 90) C dX7_isAhead_83 (by decide) (fun h83 => ?_) (fun h83 => ?_)
          · refine ax_iconst (pc := 90) (v := 0) C dX7_isAhead_90 (by decide) ?_
            exact ax_zr (pc := 91) C rfl (by first | rfl | (unfold ax_b; split <;> rfl)) dX7_isAhead_91 (by simp_all [mh_ah, hs_ah, ax_b, ← Int32.not_lt]) rfl
          · refine ax_iconst (pc := 86) (v := 1) C dX7_isAhead_86 (by decide) ?_
            refine ax_goto (pc := 87) (tgt := 91) C dX7_isAhead_87 (by decide) ?_
            exact ax_zr (pc := 91) C rfl (by first | rfl | (unfold ax_b; split <;> rfl)) dX7_isAhead_91 (by simp_all [mh_ah, hs_ah, ax_b, ← Int32.not_lt]) rfl
    · refine ax_iconst (pc := 25) (v := 1) C dX7_isAhead_25 (by decide) ?_
      refine ax_goto (pc := 26) (tgt := 30) C dX7_isAhead_26 (by decide) ?_
      refine ax_icmp_eq (pc := 30) (tgt := 49) C dX7_isAhead_30 (by decide) (fun z => False.elim (absurd z (by decide))) (fun _ => ?_)
      refine ax_aload_0 (pc := 33) C dX7_isAhead_33 ?_
      refine ax_getR (pc := 34) C fX7_31 dX7_isAhead_34 rfl rfl ?_
      refine ax_iload_2 (pc := 37) C dX7_isAhead_37 ?_
      refine ax_ian (pc := 38) C dX7_isAhead_38 rfl (by omega) (by omega) ?_
      refine ax_iconst (pc := 39) (v := 3) C dX7_isAhead_39 (by decide) ?_
      refine ax_icmp_ne (pc := 40) (tgt := 47) C dX7_isAhead_40 (by decide) (fun h40 => ?_) (fun h40 => ?_)
      · refine ax_iconst (pc := 47) (v := 0) C dX7_isAhead_47 (by decide) ?_
        exact ax_zr (pc := 48) C rfl (by first | rfl | (unfold ax_b; split <;> rfl)) dX7_isAhead_48 (by simp_all [mh_ah, hs_ah, ax_b, ← Int32.not_lt]) rfl
      · refine ax_iconst (pc := 43) (v := 1) C dX7_isAhead_43 (by decide) ?_
        refine ax_goto (pc := 44) (tgt := 48) C dX7_isAhead_44 (by decide) ?_
        exact ax_zr (pc := 48) C rfl (by first | rfl | (unfold ax_b; split <;> rfl)) dX7_isAhead_48 (by simp_all [mh_ah, hs_ah, ax_b, ← Int32.not_lt]) rfl
  · refine ax_iconst (pc := 10) (v := 1) C dX7_isAhead_10 (by decide) ?_
    refine ax_goto (pc := 11) (tgt := 15) C dX7_isAhead_11 (by decide) ?_
    refine ax_aload_0 (pc := 15) C dX7_isAhead_15 ?_
    refine ax_getR (pc := 16) C fX7_31 dX7_isAhead_16 rfl rfl ?_
    refine ax_iload_2 (pc := 19) C dX7_isAhead_19 ?_
    refine ax_ian (pc := 20) C dX7_isAhead_20 rfl (by omega) (by omega) ?_
    refine ax_iconst (pc := 21) (v := 3) C dX7_isAhead_21 (by decide) ?_
    refine ax_icmp_ne (pc := 22) (tgt := 29) C dX7_isAhead_22 (by decide) (fun h22 => ?_) (fun h22 => ?_)
    · refine ax_iconst (pc := 29) (v := 0) C dX7_isAhead_29 (by decide) ?_
      refine ax_icmp_eq (pc := 30) (tgt := 49) C dX7_isAhead_30 (by decide) (fun z => False.elim (absurd z (by decide))) (fun _ => ?_)
      refine ax_aload_0 (pc := 33) C dX7_isAhead_33 ?_
      refine ax_getR (pc := 34) C fX7_31 dX7_isAhead_34 rfl rfl ?_
      refine ax_iload_2 (pc := 37) C dX7_isAhead_37 ?_
      refine ax_ian (pc := 38) C dX7_isAhead_38 rfl (by omega) (by omega) ?_
      refine ax_iconst (pc := 39) (v := 3) C dX7_isAhead_39 (by decide) ?_
      refine ax_icmp_ne (pc := 40) (tgt := 47) C dX7_isAhead_40 (by decide) (fun h40 => ?_) (fun h40 => ?_)
      · refine ax_iconst (pc := 47) (v := 0) C dX7_isAhead_47 (by decide) ?_
        exact ax_zr (pc := 48) C rfl (by first | rfl | (unfold ax_b; split <;> rfl)) dX7_isAhead_48 (by simp_all [mh_ah, hs_ah, ax_b, ← Int32.not_lt]) rfl
      · refine ax_iconst (pc := 43) (v := 1) C dX7_isAhead_43 (by decide) ?_
        refine ax_goto (pc := 44) (tgt := 48) C dX7_isAhead_44 (by decide) ?_
        exact ax_zr (pc := 48) C rfl (by first | rfl | (unfold ax_b; split <;> rfl)) dX7_isAhead_48 (by simp_all [mh_ah, hs_ah, ax_b, ← Int32.not_lt]) rfl
    · refine ax_iconst (pc := 25) (v := 1) C dX7_isAhead_25 (by decide) ?_
      refine ax_goto (pc := 26) (tgt := 30) C dX7_isAhead_26 (by decide) ?_
      refine ax_icmp_eq (pc := 30) (tgt := 49) C dX7_isAhead_30 (by decide) (fun _ => ?_) (fun z => False.elim (absurd z (by decide)))
      refine ax_aload_0 (pc := 49) C dX7_isAhead_49 ?_
      refine ax_getI (pc := 50) C fX7_198 dX7_isAhead_50 rfl rfl ?_
      refine ax_if_eq (pc := 53) (tgt := 92) C dX7_isAhead_53 (by decide) (fun h53 => ?_) (fun h53 => ?_)
      · refine ax_aload_0 (pc := 92) C dX7_isAhead_92 ?_
        refine ax_getR (pc := 93) C fX7_34 dX7_isAhead_93 rfl rfl ?_
        refine ax_iload_1 (pc := 96) C dX7_isAhead_96 ?_
        refine ax_ian (pc := 97) C dX7_isAhead_97 rfl (by omega) (by omega) ?_
        refine ax_aload_0 (pc := 98) C dX7_isAhead_98 ?_
        refine ax_getR (pc := 99) C fX7_34 dX7_isAhead_99 rfl rfl ?_
        refine ax_iload_2 (pc := 102) C dX7_isAhead_102 ?_
        refine ax_ian (pc := 103) C dX7_isAhead_103 rfl (by omega) (by omega) ?_
        refine ax_icmp_ge (pc := 104) (tgt := 111) C dX7_isAhead_104 (by decide) (fun h104 => ?_) (fun h104 => ?_)
        · refine ax_iconst (pc := 111) (v := 0) C dX7_isAhead_111 (by decide) ?_
          exact ax_zr (pc := 112) C rfl (by first | rfl | (unfold ax_b; split <;> rfl)) dX7_isAhead_112 (by simp_all [mh_ah, hs_ah, ax_b, ← Int32.not_lt]) rfl
        · refine ax_iconst (pc := 107) (v := 1) C dX7_isAhead_107 (by decide) ?_
          refine ax_goto (pc := 108) (tgt := 112) C dX7_isAhead_108 (by decide) ?_
          exact ax_zr (pc := 112) C rfl (by first | rfl | (unfold ax_b; split <;> rfl)) dX7_isAhead_112 (by simp_all [mh_ah, hs_ah, ax_b, ← Int32.not_lt]) rfl
      · refine ax_aload_0 (pc := 56) C dX7_isAhead_56 ?_
        refine ax_getR (pc := 57) C fX7_52 dX7_isAhead_57 rfl rfl ?_
        refine ax_iload_1 (pc := 60) C dX7_isAhead_60 ?_
        refine ax_ian (pc := 61) C dX7_isAhead_61 rfl (by omega) (by omega) ?_
        refine ax_aload_0 (pc := 62) C dX7_isAhead_62 ?_
        refine ax_getR (pc := 63) C fX7_52 dX7_isAhead_63 rfl rfl ?_
        refine ax_iload_2 (pc := 66) C dX7_isAhead_66 ?_
        refine ax_ian (pc := 67) C dX7_isAhead_67 rfl (by omega) (by omega) ?_
        refine ax_icmp_eq (pc := 68) (tgt := 92) C dX7_isAhead_68 (by decide) (fun h68 => ?_) (fun h68 => ?_)
        · refine ax_aload_0 (pc := 92) C dX7_isAhead_92 ?_
          refine ax_getR (pc := 93) C fX7_34 dX7_isAhead_93 rfl rfl ?_
          refine ax_iload_1 (pc := 96) C dX7_isAhead_96 ?_
          refine ax_ian (pc := 97) C dX7_isAhead_97 rfl (by omega) (by omega) ?_
          refine ax_aload_0 (pc := 98) C dX7_isAhead_98 ?_
          refine ax_getR (pc := 99) C fX7_34 dX7_isAhead_99 rfl rfl ?_
          refine ax_iload_2 (pc := 102) C dX7_isAhead_102 ?_
          refine ax_ian (pc := 103) C dX7_isAhead_103 rfl (by omega) (by omega) ?_
          refine ax_icmp_ge (pc := 104) (tgt := 111) C dX7_isAhead_104 (by decide) (fun h104 => ?_) (fun h104 => ?_)
          · refine ax_iconst (pc := 111) (v := 0) C dX7_isAhead_111 (by decide) ?_
            exact ax_zr (pc := 112) C rfl (by first | rfl | (unfold ax_b; split <;> rfl)) dX7_isAhead_112 (by simp_all [mh_ah, hs_ah, ax_b, ← Int32.not_lt]) rfl
          · refine ax_iconst (pc := 107) (v := 1) C dX7_isAhead_107 (by decide) ?_
            refine ax_goto (pc := 108) (tgt := 112) C dX7_isAhead_108 (by decide) ?_
            exact ax_zr (pc := 112) C rfl (by first | rfl | (unfold ax_b; split <;> rfl)) dX7_isAhead_112 (by simp_all [mh_ah, hs_ah, ax_b, ← Int32.not_lt]) rfl
        · refine ax_aload_0 (pc := 71) C dX7_isAhead_71 ?_
          refine ax_getR (pc := 72) C fX7_52 dX7_isAhead_72 rfl rfl ?_
          refine ax_iload_1 (pc := 75) C dX7_isAhead_75 ?_
          refine ax_ian (pc := 76) C dX7_isAhead_76 rfl (by omega) (by omega) ?_
          refine ax_aload_0 (pc := 77) C dX7_isAhead_77 ?_
          refine ax_getR (pc := 78) C fX7_52 dX7_isAhead_78 rfl rfl ?_
          refine ax_iload_2 (pc := 81) C dX7_isAhead_81 ?_
          refine ax_ian (pc := 82) C dX7_isAhead_82 rfl (by omega) (by omega) ?_
          refine ax_icmp_ge (pc := 83) (tgt := 90) C dX7_isAhead_83 (by decide) (fun h83 => ?_) (fun h83 => ?_)
          · refine ax_iconst (pc := 90) (v := 0) C dX7_isAhead_90 (by decide) ?_
            exact ax_zr (pc := 91) C rfl (by first | rfl | (unfold ax_b; split <;> rfl)) dX7_isAhead_91 (by simp_all [mh_ah, hs_ah, ax_b, ← Int32.not_lt]) rfl
          · refine ax_iconst (pc := 86) (v := 1) C dX7_isAhead_86 (by decide) ?_
            refine ax_goto (pc := 87) (tgt := 91) C dX7_isAhead_87 (by decide) ?_
            exact ax_zr (pc := 91) C rfl (by first | rfl | (unfold ax_b; split <;> rfl)) dX7_isAhead_91 (by simp_all [mh_ah, hs_ah, ax_b, ← Int32.not_lt]) rfl

set_option maxRecDepth 20000 in
set_option maxHeartbeats 4000000 in
theorem w_X7_goHour {Y : ax_Y} {ad : Nat → Nat} (F : ax_F Y) {l : Launch} {σ : ax_Z} {n : Nat} (hn : σ 77 20 = nI n) (h7 : n ≤ 7) {h : Nat} (hh : h < 12) : ax_m Y ad l iX7_goHour 3 σ [.ref (ad 77), .int (nI h)] (some (.int (nI (mh_tm σ n (nI h))))) (mh_go σ n h) := by
  refine ax_m.of F kX7_goHour.1 [some (.ref (ad 77)), some (.int (nI h)), none, none, none, none] rfl (Nat.le_of_ble_eq_true rfl) (fun x C => ?_)
  have tl : ∀ (o : Option Nat) (ho : hs_f (mh_rd σ n (nI h)) (mh_ah σ) n = o) (z : Option Value), ax_S x Y ad 0 0 (ax_Q x Y ad (some (.int (nI (mh_tm σ n (nI h))))) 96 (ax_g Y ad (mh_go σ n h)) 0 0) σ 97 [some (.ref (ad 77)), some (.int (nI h)), some (.int (mN o)), some (.int (nI (ms_k (mh_tr σ n (nI h)) n))), some (.int (nI n)), z] [] := by
    intro o ho z
    cases o with
    | none =>
      refine ax_aload_0 (pc := 97) C dX7_goHour_97 ?_
      refine ax_getR (pc := 98) C fX7_49 dX7_goHour_98 rfl rfl ?_
      refine ax_iload_1 (pc := 101) C dX7_goHour_101 ?_
      refine ax_iload_2 (pc := 102) C dX7_goHour_102 ?_
      refine ax_isn (pc := 103) C dX7_goHour_103 rfl (by omega) (by omega) ?_
      refine ax_iload_2 (pc := 104) C dX7_goHour_104 ?_
      refine ax_ldc (pc := 105) C dX7_goHour_105 qX7_101 ?_
      refine ax_icmp_ne (pc := 107) (tgt := 112) C dX7_goHour_107 (by decide) (fun z => False.elim (z rfl)) (fun _ => ?_)
      refine ax_iconst (pc := 110) (v := 0) C dX7_goHour_110 (by decide) ?_
      exact ax_ir (pc := 111) C rfl dX7_goHour_111 (by rw [mh_tm, show mh_f σ n (nI h) = none from ho]; rfl) (by rw [mh_go, show mh_f σ n (nI h) = none from ho]; rfl)
    | some f =>
      have hfl := (hs_f_lt ho).1
      have hpos : 0 < ms_c (mh_tr σ n (nI h)) n := ms_c_pos hfl (by rw [mh_tr, (hs_f_lt ho).2]; rfl)
      have hcc := ms_c_le (mh_tr σ n (nI h)) n
      have tl2 : ax_S x Y ad 0 0 (ax_Q x Y ad (some (.int (nI (mh_tm σ n (nI h))))) 96 (ax_g Y ad (mh_go σ n h)) 0 0) (hs_gone (ax_up σ 91 h (nI f)) 89 (mh_tr σ n (nI h)) (nI h) n) 154 [some (.ref (ad 77)), some (.int (nI h)), some (.int (nI f)), some (.int (nI (ms_k (mh_tr σ n (nI h)) n))), some (.int (nI (ms_c (mh_tr σ n (nI h)) n))), some (.int (nI n))] [] := by
        refine ax_aload_0 (pc := 154) C dX7_goHour_154 ?_
        refine ax_getR (pc := 155) C fX7_46 dX7_goHour_155 rfl rfl ?_
        refine ax_iload_2 (pc := 158) C dX7_goHour_158 ?_
        refine ax_aload_0 (pc := 159) C dX7_goHour_159 ?_
        refine ax_iload_4 (pc := 160) C dX7_goHour_160 ?_
        refine ax_callVi (pc := 162) C (w_X7_tollFor F (k := ms_c (mh_tr σ n (nI h)) n) hpos (by omega)) kX7_tollFor mX7_217 dX7_goHour_162 (by decide) rfl rfl rfl rfl rfl (Nat.le_of_ble_eq_true rfl) rfl ⟨Nat.le_refl _, Nat.le_refl _⟩ ?_
        refine ax_val C (show _ = hs_toll (fun t => σ 81 (2 + t)) (ms_c (mh_tr σ n (nI h)) n) by rw [hs_gone_ne (by decide), up_ne (by decide)]) ?_
        refine ax_isn (pc := 165) C dX7_goHour_165 rfl (by omega) (by omega) ?_
        refine ax_aload_0 (pc := 166) C dX7_goHour_166 ?_
        refine ax_getR (pc := 167) C fX7_52 dX7_goHour_167 rfl rfl ?_
        refine ax_iload_2 (pc := 170) C dX7_goHour_170 ?_
        refine ax_dup2 (pc := 171) C dX7_goHour_171 rfl rfl ?_
        refine ax_ian (pc := 172) C dX7_goHour_172 rfl (by omega) (by omega) ?_
        refine ax_iconst (pc := 173) (v := 1) C dX7_goHour_173 (by decide) ?_
        refine ax_iadd (pc := 174) C dX7_goHour_174 ?_
        refine ax_val C (show _ = σ 92 f + 1 by rw [up_ne (by decide), hs_gone_ne (by decide), up_ne (by decide)]) ?_
        refine ax_isn (pc := 175) C dX7_goHour_175 rfl (by omega) (by omega) ?_
        refine ax_iload_3 (pc := 176) C dX7_goHour_176 ?_
        exact ax_ir (pc := 177) C rfl dX7_goHour_177 (by rw [mh_tm, show mh_f σ n (nI h) = some f from ho]) (by rw [mh_go, show mh_f σ n (nI h) = some f from ho])
      have loop2 : ∀ (q : Nat) (c : Nat), c ≤ n → n < c + q → ax_S x Y ad 0 0 (ax_Q x Y ad (some (.int (nI (mh_tm σ n (nI h))))) 96 (ax_g Y ad (mh_go σ n h)) 0 0) (hs_gone (ax_up σ 91 h (nI f)) 89 (mh_tr σ n (nI h)) (nI h) c) 118 [some (.ref (ad 77)), some (.int (nI h)), some (.int (nI f)), some (.int (nI (ms_k (mh_tr σ n (nI h)) n))), some (.int (nI (ms_c (mh_tr σ n (nI h)) c))), some (.int (nI c))] [] := by
        intro q
        induction q with
        | zero => intro c h1 h2; exfalso; omega
        | succ q ih =>
          intro c h1 h2
          refine ax_iload_5 (pc := 118) C dX7_goHour_118 ?_
          refine ax_aload_0 (pc := 120) C dX7_goHour_120 ?_
          refine ax_getI (pc := 121) C fX7_195 dX7_goHour_121 rfl rfl ?_
          refine ax_val C (show _ = nI n by rw [hs_gone_ne (by decide), up_ne (by decide)]; exact hn) ?_
          refine ax_icmp_ge (pc := 124) (tgt := 154) C dX7_goHour_124 (by decide) (fun h124 => ?_) (fun h124 => ?_)
          · have hcn : ¬ c < n := fun q => nI_ge q (by omega) h124
            have ecn : c = n := by omega
            subst ecn
            exact tl2
          · have hcn : c < n := Nat.lt_of_not_le (fun q => h124 (nI_le q (by omega)))
            refine ax_iload_3 (pc := 127) C dX7_goHour_127 ?_
            refine ax_iload_5 (pc := 128) C dX7_goHour_128 ?_
            refine ax_ishr (pc := 130) C dX7_goHour_130 ?_
            refine ax_iconst (pc := 131) (v := 1) C dX7_goHour_131 (by decide) ?_
            refine ax_iand (pc := 132) C dX7_goHour_132 ?_
            refine ax_iconst (pc := 133) (v := 1) C dX7_goHour_133 (by decide) ?_
            refine ax_icmp_ne (pc := 134) (tgt := 148) C dX7_goHour_134 (by decide) (fun h134 => ?_) (fun h134 => ?_)
            · rw [ms_test hcn (by omega)] at h134
              refine ax_iinc_5 (pc := 148) C dX7_goHour_148 (1) (by decide) rfl ?_
              refine ax_goto (pc := 151) (tgt := 118) C dX7_goHour_151 (by decide) ?_
              have ht : ¬ mh_tr σ n (nI h) c = true := by simp_all
              refine ax_SLeq (hs_gone_f ht).symm ?_ (ih (c + 1) (by omega) (by omega))
              rw [ms_c_s, if_neg ht, nI_1]
              simp only [Nat.add_zero]
            · rw [ms_test hcn (by omega)] at h134
              refine ax_aload_0 (pc := 137) C dX7_goHour_137 ?_
              refine ax_getR (pc := 138) C fX7_43 dX7_goHour_138 rfl rfl ?_
              refine ax_iload_5 (pc := 141) C dX7_goHour_141 ?_
              refine ax_iload_1 (pc := 143) C dX7_goHour_143 ?_
              refine ax_isn (pc := 144) C dX7_goHour_144 rfl (by omega) (by omega) ?_
              refine ax_iinc_4 (pc := 145) C dX7_goHour_145 (1) (by decide) rfl ?_
              refine ax_iinc_5 (pc := 148) C dX7_goHour_148 (1) (by decide) rfl ?_
              refine ax_goto (pc := 151) (tgt := 118) C dX7_goHour_151 (by decide) ?_
              have ht : mh_tr σ n (nI h) c = true := by simp_all
              refine ax_SLeq (hs_gone_t ht) ?_ (ih (c + 1) (by omega) (by omega))
              rw [ms_c_s, if_pos ht, nI_1, nI_1]
      refine ax_aload_0 (pc := 97) C dX7_goHour_97 ?_
      refine ax_getR (pc := 98) C fX7_49 dX7_goHour_98 rfl rfl ?_
      refine ax_iload_1 (pc := 101) C dX7_goHour_101 ?_
      refine ax_iload_2 (pc := 102) C dX7_goHour_102 ?_
      refine ax_isn (pc := 103) C dX7_goHour_103 rfl (by omega) (by omega) ?_
      refine ax_iload_2 (pc := 104) C dX7_goHour_104 ?_
      refine ax_ldc (pc := 105) C dX7_goHour_105 qX7_101 ?_
      refine ax_icmp_ne (pc := 107) (tgt := 112) C dX7_goHour_107 (by decide) (fun _ => ?_) (fun z => False.elim (absurd z (nI_neN (by omega))))
      refine ax_iconst (pc := 112) (v := 0) C dX7_goHour_112 (by decide) ?_
      refine ax_istore_4 (pc := 113) C dX7_goHour_113 rfl ?_
      refine ax_iconst (pc := 115) (v := 0) C dX7_goHour_115 (by decide) ?_
      refine ax_istore_5 (pc := 116) C dX7_goHour_116 rfl ?_
      exact ax_Seq hs_gone_0.symm (loop2 (n + 1) 0 (by omega) (by omega))
  have loop : ∀ (q : Nat) (c : Nat) (o : Option Nat) (z : Option Value), hs_f (mh_rd σ n (nI h)) (mh_ah σ) c = o → c ≤ n → n < c + q → ax_S x Y ad 0 0 (ax_Q x Y ad (some (.int (nI (mh_tm σ n (nI h))))) 96 (ax_g Y ad (mh_go σ n h)) 0 0) σ 8 [some (.ref (ad 77)), some (.int (nI h)), some (.int (mN o)), some (.int (nI (ms_k (mh_tr σ n (nI h)) c))), some (.int (nI c)), z] [] := by
    intro q
    induction q with
    | zero => intro c o z ho h1 h2; exfalso; omega
    | succ q ih =>
      intro c o z ho h1 h2
      cases o with
      | none =>
        refine ax_iload_4 (pc := 8) C dX7_goHour_8 ?_
        refine ax_aload_0 (pc := 10) C dX7_goHour_10 ?_
        refine ax_getI (pc := 11) C fX7_195 dX7_goHour_11 rfl rfl ?_
        refine ax_icmp_ge (pc := 14) (tgt := 97) C dX7_goHour_14 (by decide) (fun h14 => ?_) (fun h14 => ?_)
        · have hcn : ¬ c < n := fun q => nI_ge q (by omega) (by rw [← hn]; exact h14)
          have ecn : c = n := by omega
          subst ecn
          exact tl none ho _
        · have hcn : c < n := Nat.lt_of_not_le (fun q => h14 (by rw [hn]; exact nI_le q (by omega)))
          refine ax_aload_0 (pc := 17) C dX7_goHour_17 ?_
          refine ax_iload_4 (pc := 18) C dX7_goHour_18 ?_
          refine ax_iload_1 (pc := 20) C dX7_goHour_20 ?_
          refine ax_callVi (pc := 21) C (w_X7_isReady F hn h7 (by omega)) kX7_isReady mX7_211 dX7_goHour_21 (by decide) rfl rfl rfl rfl rfl (Nat.le_of_ble_eq_true rfl) rfl ⟨Nat.le_refl _, Nat.le_refl _⟩ ?_
          refine ax_istore_5 (pc := 24) C dX7_goHour_24 rfl ?_
          refine ax_iload_5 (pc := 26) C dX7_goHour_26 ?_
          refine ax_if_eq (pc := 28) (tgt := 52) C dX7_goHour_28 (by decide) (fun h28 => ?_) (fun h28 => ?_)
          · have h28 := ax_beq h28
            refine ax_iload_2 (pc := 52) C dX7_goHour_52 ?_
            refine ax_istore_2 (pc := 53) C dX7_goHour_53 rfl ?_
            refine ax_iload_3 (pc := 54) C dX7_goHour_54 ?_
            refine ax_iload_5 (pc := 55) C dX7_goHour_55 ?_
            refine ax_if_ne (pc := 57) (tgt := 81) C dX7_goHour_57 (by decide) (fun h57 => ?_) (fun h57 => ?_)
            · have h57 := ax_bne h57
              exact absurd h57 h28
            · have h57 := ax_beq h57
              refine ax_aload_0 (pc := 60) C dX7_goHour_60 ?_
              refine ax_iload_4 (pc := 61) C dX7_goHour_61 ?_
              refine ax_iload_1 (pc := 63) C dX7_goHour_63 ?_
              refine ax_callVi (pc := 64) C (w_X7_stands F (by omega)) kX7_stands mX7_204 dX7_goHour_64 (by decide) rfl rfl rfl rfl rfl (Nat.le_of_ble_eq_true rfl) rfl ⟨Nat.le_refl _, Nat.le_refl _⟩ ?_
              refine ax_if_eq (pc := 67) (tgt := 88) C dX7_goHour_67 (by decide) (fun h67 => ?_) (fun h67 => ?_)
              · have h67 := ax_beq h67
                refine ax_iconst (pc := 88) (v := 0) C dX7_goHour_88 (by decide) ?_
                refine ax_ior (pc := 89) C dX7_goHour_89 ?_
                refine ax_istore_3 (pc := 90) C dX7_goHour_90 rfl ?_
                refine ax_iinc_4 (pc := 91) C dX7_goHour_91 (1) (by decide) rfl ?_
                refine ax_goto (pc := 94) (tgt := 8) C dX7_goHour_94 (by decide) ?_
                have hst : ¬ mh_tr σ n (nI h) c = true := by simp_all [mh_tr, ← Int32.not_lt]
                refine ax_Leq ?_ (ih (c + 1) none (some (.int (ax_b (mh_rd σ n (nI h) c = true)))) (by simp_all [hs_f]) (by omega) (by omega))
                rw [ms_skip hst, nI_1, Int32.or_zero]
              · have h67 := ax_bne h67
                refine ax_aload_0 (pc := 70) C dX7_goHour_70 ?_
                refine ax_getR (pc := 71) C fX7_31 dX7_goHour_71 rfl rfl ?_
                refine ax_iload_4 (pc := 74) C dX7_goHour_74 ?_
                refine ax_ian (pc := 76) C dX7_goHour_76 rfl (by omega) (by omega) ?_
                refine ax_iconst (pc := 77) (v := 4) C dX7_goHour_77 (by decide) ?_
                refine ax_icmp_ge (pc := 78) (tgt := 88) C dX7_goHour_78 (by decide) (fun h78 => ?_) (fun h78 => ?_)
                · refine ax_iconst (pc := 88) (v := 0) C dX7_goHour_88 (by decide) ?_
                  refine ax_ior (pc := 89) C dX7_goHour_89 ?_
                  refine ax_istore_3 (pc := 90) C dX7_goHour_90 rfl ?_
                  refine ax_iinc_4 (pc := 91) C dX7_goHour_91 (1) (by decide) rfl ?_
                  refine ax_goto (pc := 94) (tgt := 8) C dX7_goHour_94 (by decide) ?_
                  have hst : ¬ mh_tr σ n (nI h) c = true := by simp_all [mh_tr, ← Int32.not_lt]
                  refine ax_Leq ?_ (ih (c + 1) none (some (.int (ax_b (mh_rd σ n (nI h) c = true)))) (by simp_all [hs_f]) (by omega) (by omega))
                  rw [ms_skip hst, nI_1, Int32.or_zero]
                · refine ax_iconst (pc := 81) (v := 1) C dX7_goHour_81 (by decide) ?_
                  refine ax_iload_4 (pc := 82) C dX7_goHour_82 ?_
                  refine ax_ishl (pc := 84) C dX7_goHour_84 ?_
                  refine ax_goto (pc := 85) (tgt := 89) C dX7_goHour_85 (by decide) ?_
                  refine ax_ior (pc := 89) C dX7_goHour_89 ?_
                  refine ax_istore_3 (pc := 90) C dX7_goHour_90 rfl ?_
                  refine ax_iinc_4 (pc := 91) C dX7_goHour_91 (1) (by decide) rfl ?_
                  refine ax_goto (pc := 94) (tgt := 8) C dX7_goHour_94 (by decide) ?_
                  have hst : mh_tr σ n (nI h) c = true := by simp_all [mh_tr, ← Int32.not_lt]
                  refine ax_Leq ?_ (ih (c + 1) none (some (.int (ax_b (mh_rd σ n (nI h) c = true)))) (by simp_all [hs_f]) (by omega) (by omega))
                  rw [ms_add (by omega) hst, nI_1]
                  try rfl
          · have h28 := ax_bne h28
            refine ax_iload_2 (pc := 31) C dX7_goHour_31 ?_
            refine ax_ldc (pc := 32) C dX7_goHour_32 qX7_101 ?_
            refine ax_icmp_eq (pc := 34) (tgt := 47) C dX7_goHour_34 (by decide) (fun _ => ?_) (fun z => False.elim (z rfl))
            refine ax_iload_4 (pc := 47) C dX7_goHour_47 ?_
            refine ax_goto (pc := 49) (tgt := 53) C dX7_goHour_49 (by decide) ?_
            refine ax_istore_2 (pc := 53) C dX7_goHour_53 rfl ?_
            refine ax_iload_3 (pc := 54) C dX7_goHour_54 ?_
            refine ax_iload_5 (pc := 55) C dX7_goHour_55 ?_
            refine ax_if_ne (pc := 57) (tgt := 81) C dX7_goHour_57 (by decide) (fun h57 => ?_) (fun h57 => ?_)
            · have h57 := ax_bne h57
              refine ax_iconst (pc := 81) (v := 1) C dX7_goHour_81 (by decide) ?_
              refine ax_iload_4 (pc := 82) C dX7_goHour_82 ?_
              refine ax_ishl (pc := 84) C dX7_goHour_84 ?_
              refine ax_goto (pc := 85) (tgt := 89) C dX7_goHour_85 (by decide) ?_
              refine ax_ior (pc := 89) C dX7_goHour_89 ?_
              refine ax_istore_3 (pc := 90) C dX7_goHour_90 rfl ?_
              refine ax_iinc_4 (pc := 91) C dX7_goHour_91 (1) (by decide) rfl ?_
              refine ax_goto (pc := 94) (tgt := 8) C dX7_goHour_94 (by decide) ?_
              have hst : mh_tr σ n (nI h) c = true := by simp_all [mh_tr, ← Int32.not_lt]
              refine ax_Leq ?_ (ih (c + 1) (some c) (some (.int (ax_b (mh_rd σ n (nI h) c = true)))) (by simp_all [hs_f]) (by omega) (by omega))
              rw [ms_add (by omega) hst, nI_1]
              try rfl
            · have h57 := ax_beq h57
              exact absurd h28 h57
      | some f =>
        have hfl := (hs_f_lt ho).1
        refine ax_iload_4 (pc := 8) C dX7_goHour_8 ?_
        refine ax_aload_0 (pc := 10) C dX7_goHour_10 ?_
        refine ax_getI (pc := 11) C fX7_195 dX7_goHour_11 rfl rfl ?_
        refine ax_icmp_ge (pc := 14) (tgt := 97) C dX7_goHour_14 (by decide) (fun h14 => ?_) (fun h14 => ?_)
        · have hcn : ¬ c < n := fun q => nI_ge q (by omega) (by rw [← hn]; exact h14)
          have ecn : c = n := by omega
          subst ecn
          exact tl (some f) ho _
        · have hcn : c < n := Nat.lt_of_not_le (fun q => h14 (by rw [hn]; exact nI_le q (by omega)))
          refine ax_aload_0 (pc := 17) C dX7_goHour_17 ?_
          refine ax_iload_4 (pc := 18) C dX7_goHour_18 ?_
          refine ax_iload_1 (pc := 20) C dX7_goHour_20 ?_
          refine ax_callVi (pc := 21) C (w_X7_isReady F hn h7 (by omega)) kX7_isReady mX7_211 dX7_goHour_21 (by decide) rfl rfl rfl rfl rfl (Nat.le_of_ble_eq_true rfl) rfl ⟨Nat.le_refl _, Nat.le_refl _⟩ ?_
          refine ax_istore_5 (pc := 24) C dX7_goHour_24 rfl ?_
          refine ax_iload_5 (pc := 26) C dX7_goHour_26 ?_
          refine ax_if_eq (pc := 28) (tgt := 52) C dX7_goHour_28 (by decide) (fun h28 => ?_) (fun h28 => ?_)
          · have h28 := ax_beq h28
            refine ax_iload_2 (pc := 52) C dX7_goHour_52 ?_
            refine ax_istore_2 (pc := 53) C dX7_goHour_53 rfl ?_
            refine ax_iload_3 (pc := 54) C dX7_goHour_54 ?_
            refine ax_iload_5 (pc := 55) C dX7_goHour_55 ?_
            refine ax_if_ne (pc := 57) (tgt := 81) C dX7_goHour_57 (by decide) (fun h57 => ?_) (fun h57 => ?_)
            · have h57 := ax_bne h57
              exact absurd h57 h28
            · have h57 := ax_beq h57
              refine ax_aload_0 (pc := 60) C dX7_goHour_60 ?_
              refine ax_iload_4 (pc := 61) C dX7_goHour_61 ?_
              refine ax_iload_1 (pc := 63) C dX7_goHour_63 ?_
              refine ax_callVi (pc := 64) C (w_X7_stands F (by omega)) kX7_stands mX7_204 dX7_goHour_64 (by decide) rfl rfl rfl rfl rfl (Nat.le_of_ble_eq_true rfl) rfl ⟨Nat.le_refl _, Nat.le_refl _⟩ ?_
              refine ax_if_eq (pc := 67) (tgt := 88) C dX7_goHour_67 (by decide) (fun h67 => ?_) (fun h67 => ?_)
              · have h67 := ax_beq h67
                refine ax_iconst (pc := 88) (v := 0) C dX7_goHour_88 (by decide) ?_
                refine ax_ior (pc := 89) C dX7_goHour_89 ?_
                refine ax_istore_3 (pc := 90) C dX7_goHour_90 rfl ?_
                refine ax_iinc_4 (pc := 91) C dX7_goHour_91 (1) (by decide) rfl ?_
                refine ax_goto (pc := 94) (tgt := 8) C dX7_goHour_94 (by decide) ?_
                have hst : ¬ mh_tr σ n (nI h) c = true := by simp_all [mh_tr, ← Int32.not_lt]
                refine ax_Leq ?_ (ih (c + 1) (some f) (some (.int (ax_b (mh_rd σ n (nI h) c = true)))) (by simp_all [hs_f]) (by omega) (by omega))
                rw [ms_skip hst, nI_1, Int32.or_zero]
              · have h67 := ax_bne h67
                refine ax_aload_0 (pc := 70) C dX7_goHour_70 ?_
                refine ax_getR (pc := 71) C fX7_31 dX7_goHour_71 rfl rfl ?_
                refine ax_iload_4 (pc := 74) C dX7_goHour_74 ?_
                refine ax_ian (pc := 76) C dX7_goHour_76 rfl (by omega) (by omega) ?_
                refine ax_iconst (pc := 77) (v := 4) C dX7_goHour_77 (by decide) ?_
                refine ax_icmp_ge (pc := 78) (tgt := 88) C dX7_goHour_78 (by decide) (fun h78 => ?_) (fun h78 => ?_)
                · refine ax_iconst (pc := 88) (v := 0) C dX7_goHour_88 (by decide) ?_
                  refine ax_ior (pc := 89) C dX7_goHour_89 ?_
                  refine ax_istore_3 (pc := 90) C dX7_goHour_90 rfl ?_
                  refine ax_iinc_4 (pc := 91) C dX7_goHour_91 (1) (by decide) rfl ?_
                  refine ax_goto (pc := 94) (tgt := 8) C dX7_goHour_94 (by decide) ?_
                  have hst : ¬ mh_tr σ n (nI h) c = true := by simp_all [mh_tr, ← Int32.not_lt]
                  refine ax_Leq ?_ (ih (c + 1) (some f) (some (.int (ax_b (mh_rd σ n (nI h) c = true)))) (by simp_all [hs_f]) (by omega) (by omega))
                  rw [ms_skip hst, nI_1, Int32.or_zero]
                · refine ax_iconst (pc := 81) (v := 1) C dX7_goHour_81 (by decide) ?_
                  refine ax_iload_4 (pc := 82) C dX7_goHour_82 ?_
                  refine ax_ishl (pc := 84) C dX7_goHour_84 ?_
                  refine ax_goto (pc := 85) (tgt := 89) C dX7_goHour_85 (by decide) ?_
                  refine ax_ior (pc := 89) C dX7_goHour_89 ?_
                  refine ax_istore_3 (pc := 90) C dX7_goHour_90 rfl ?_
                  refine ax_iinc_4 (pc := 91) C dX7_goHour_91 (1) (by decide) rfl ?_
                  refine ax_goto (pc := 94) (tgt := 8) C dX7_goHour_94 (by decide) ?_
                  have hst : mh_tr σ n (nI h) c = true := by simp_all [mh_tr, ← Int32.not_lt]
                  refine ax_Leq ?_ (ih (c + 1) (some f) (some (.int (ax_b (mh_rd σ n (nI h) c = true)))) (by simp_all [hs_f]) (by omega) (by omega))
                  rw [ms_add (by omega) hst, nI_1]
                  try rfl
          · have h28 := ax_bne h28
            refine ax_iload_2 (pc := 31) C dX7_goHour_31 ?_
            refine ax_ldc (pc := 32) C dX7_goHour_32 qX7_101 ?_
            refine ax_icmp_eq (pc := 34) (tgt := 47) C dX7_goHour_34 (by decide) (fun z => False.elim (absurd z (nI_neN (by omega)))) (fun _ => ?_)
            refine ax_aload_0 (pc := 37) C dX7_goHour_37 ?_
            refine ax_iload_4 (pc := 38) C dX7_goHour_38 ?_
            refine ax_iload_2 (pc := 40) C dX7_goHour_40 ?_
            refine ax_callVi (pc := 41) C (w_X7_isAhead F (by omega) (by omega)) kX7_isAhead mX7_214 dX7_goHour_41 (by decide) rfl rfl rfl rfl rfl (Nat.le_of_ble_eq_true rfl) rfl ⟨Nat.le_refl _, Nat.le_refl _⟩ ?_
            refine ax_if_eq (pc := 44) (tgt := 52) C dX7_goHour_44 (by decide) (fun h44 => ?_) (fun h44 => ?_)
            · have h44 := ax_beq h44
              refine ax_iload_2 (pc := 52) C dX7_goHour_52 ?_
              refine ax_istore_2 (pc := 53) C dX7_goHour_53 rfl ?_
              refine ax_iload_3 (pc := 54) C dX7_goHour_54 ?_
              refine ax_iload_5 (pc := 55) C dX7_goHour_55 ?_
              refine ax_if_ne (pc := 57) (tgt := 81) C dX7_goHour_57 (by decide) (fun h57 => ?_) (fun h57 => ?_)
              · have h57 := ax_bne h57
                refine ax_iconst (pc := 81) (v := 1) C dX7_goHour_81 (by decide) ?_
                refine ax_iload_4 (pc := 82) C dX7_goHour_82 ?_
                refine ax_ishl (pc := 84) C dX7_goHour_84 ?_
                refine ax_goto (pc := 85) (tgt := 89) C dX7_goHour_85 (by decide) ?_
                refine ax_ior (pc := 89) C dX7_goHour_89 ?_
                refine ax_istore_3 (pc := 90) C dX7_goHour_90 rfl ?_
                refine ax_iinc_4 (pc := 91) C dX7_goHour_91 (1) (by decide) rfl ?_
                refine ax_goto (pc := 94) (tgt := 8) C dX7_goHour_94 (by decide) ?_
                have hst : mh_tr σ n (nI h) c = true := by simp_all [mh_tr, ← Int32.not_lt]
                refine ax_Leq ?_ (ih (c + 1) (some f) (some (.int (ax_b (mh_rd σ n (nI h) c = true)))) (by simp_all [hs_f]) (by omega) (by omega))
                rw [ms_add (by omega) hst, nI_1]
                try rfl
              · have h57 := ax_beq h57
                exact absurd h28 h57
            · have h44 := ax_bne h44
              refine ax_iload_4 (pc := 47) C dX7_goHour_47 ?_
              refine ax_goto (pc := 49) (tgt := 53) C dX7_goHour_49 (by decide) ?_
              refine ax_istore_2 (pc := 53) C dX7_goHour_53 rfl ?_
              refine ax_iload_3 (pc := 54) C dX7_goHour_54 ?_
              refine ax_iload_5 (pc := 55) C dX7_goHour_55 ?_
              refine ax_if_ne (pc := 57) (tgt := 81) C dX7_goHour_57 (by decide) (fun h57 => ?_) (fun h57 => ?_)
              · have h57 := ax_bne h57
                refine ax_iconst (pc := 81) (v := 1) C dX7_goHour_81 (by decide) ?_
                refine ax_iload_4 (pc := 82) C dX7_goHour_82 ?_
                refine ax_ishl (pc := 84) C dX7_goHour_84 ?_
                refine ax_goto (pc := 85) (tgt := 89) C dX7_goHour_85 (by decide) ?_
                refine ax_ior (pc := 89) C dX7_goHour_89 ?_
                refine ax_istore_3 (pc := 90) C dX7_goHour_90 rfl ?_
                refine ax_iinc_4 (pc := 91) C dX7_goHour_91 (1) (by decide) rfl ?_
                refine ax_goto (pc := 94) (tgt := 8) C dX7_goHour_94 (by decide) ?_
                have hst : mh_tr σ n (nI h) c = true := by simp_all [mh_tr, ← Int32.not_lt]
                refine ax_Leq ?_ (ih (c + 1) (some c) (some (.int (ax_b (mh_rd σ n (nI h) c = true)))) (by simp_all [hs_f]) (by omega) (by omega))
                rw [ms_add (by omega) hst, nI_1]
                try rfl
              · have h57 := ax_beq h57
                exact absurd h28 h57
  refine ax_ldc (pc := 0) C dX7_goHour_0 qX7_101 ?_
  refine ax_istore_2 (pc := 2) C dX7_goHour_2 rfl ?_
  refine ax_iconst (pc := 3) (v := 0) C dX7_goHour_3 (by decide) ?_
  refine ax_istore_3 (pc := 4) C dX7_goHour_4 rfl ?_
  refine ax_iconst (pc := 5) (v := 0) C dX7_goHour_5 (by decide) ?_
  refine ax_istore_4 (pc := 6) C dX7_goHour_6 rfl ?_
  exact loop (n + 1) 0 none none rfl (by omega) (by omega)

set_option maxRecDepth 20000 in
set_option maxHeartbeats 4000000 in
theorem w_X7_goDay {Y : ax_Y} {ad : Nat → Nat} (F : ax_F Y) {l : Launch} {σ : ax_Z} {n : Nat} (hn : σ 77 20 = nI n) (hn7 : n ≤ 7) : ax_m Y ad l iX7_goDay 4 σ [.ref (ad 77)] none (md_go σ n) := by
  refine ax_m.of F kX7_goDay.1 [some (.ref (ad 77)), none, none] rfl (Nat.le_of_ble_eq_true rfl) (fun x C => ?_)
  have tl : ax_S x Y ad 0 0 (ax_Q x Y ad none 96 (ax_g Y ad (md_go σ n)) 0 0) (md_an σ n) 31 [some (.ref (ad 77)), some (.int (nI n)), none] [] := by
    have loop2 : ∀ (q : Nat) (k : Nat) (z : Option Value), k ≤ 12 → 12 < k + q → ax_S x Y ad 0 0 (ax_Q x Y ad none 96 (ax_g Y ad (md_go σ n)) 0 0) (md_h σ n k) 33 [some (.ref (ad 77)), some (.int (nI k)), z] [] := by
      intro q
      induction q with
      | zero => intro k z h1 h2; exfalso; omega
      | succ q ih =>
        intro k z h1 h2
        refine ax_iload_1 (pc := 33) C dX7_goDay_33 ?_
        refine ax_bipush (pc := 34) (v := 11) C dX7_goDay_34 (by decide) ?_
        refine ax_icmp_gt (pc := 36) (tgt := 51) C dX7_goDay_36 (by decide) (fun h36 => ?_) (fun h36 => ?_)
        · have hk : ¬ k ≤ 11 := fun z => absurd (nI_le (b := 11) z (by decide)) (Int32.not_le.mpr h36)
          exact ax_vr (pc := 51) C rfl dX7_goDay_51 (by rw [show k = 12 by omega]; rfl)
        · have hk : k ≤ 11 := Nat.le_of_not_lt (fun z => h36 (nI_lt (a := 11) z (by omega)))
          refine ax_aload_0 (pc := 39) C dX7_goDay_39 ?_
          refine ax_iload_1 (pc := 40) C dX7_goDay_40 ?_
          refine ax_callVi (pc := 41) C (w_X7_goHour F (n := n) (by rw [md_h_ne (by decide)]; exact hn) hn7 (by omega)) kX7_goHour mX7_220 dX7_goDay_41 (by decide) rfl rfl rfl rfl rfl (Nat.le_of_ble_eq_true rfl) rfl ⟨Nat.le_refl _, Nat.le_refl _⟩ ?_
          refine ax_istore_2 (pc := 44) C dX7_goDay_44 rfl ?_
          refine ax_iinc_1 (pc := 45) C dX7_goDay_45 (1) (by decide) rfl ?_
          refine ax_goto (pc := 48) (tgt := 33) C dX7_goDay_48 (by decide) ?_
          refine ax_SLeq rfl (by rw [nI_1]) (ih (k + 1) (some (.int (nI (mh_tm (md_h σ n k) n (nI k))))) (by omega) (by omega))
    refine ax_iconst (pc := 31) (v := 0) C dX7_goDay_31 (by decide) ?_
    refine ax_istore_1 (pc := 32) C dX7_goDay_32 rfl ?_
    exact loop2 13 0 none (by omega) (by omega)
  have loop : ∀ (q : Nat) (c : Nat), c ≤ n → n < c + q → ax_S x Y ad 0 0 (ax_Q x Y ad none 96 (ax_g Y ad (md_go σ n)) 0 0) (md_an σ c) 2 [some (.ref (ad 77)), some (.int (nI c)), none] [] := by
    intro q
    induction q with
    | zero => intro c h1 h2; exfalso; omega
    | succ q ih =>
      intro c h1 h2
      refine ax_iload_1 (pc := 2) C dX7_goDay_2 ?_
      refine ax_aload_0 (pc := 3) C dX7_goDay_3 ?_
      refine ax_getI (pc := 4) C fX7_195 dX7_goDay_4 rfl rfl ?_
      refine ax_val C (show _ = nI n by rw [md_an_ne (by decide)]; exact hn) ?_
      refine ax_icmp_ge (pc := 7) (tgt := 31) C dX7_goDay_7 (by decide) (fun h7 => ?_) (fun h7 => ?_)
      · have hcn : ¬ c < n := fun q => nI_ge q (by omega) h7
        have ecn : c = n := by omega
        subst ecn
        exact tl
      · have hcn : c < n := Nat.lt_of_not_le (fun q => h7 (nI_le q (by omega)))
        refine ax_aload_0 (pc := 10) C dX7_goDay_10 ?_
        refine ax_getR (pc := 11) C fX7_43 dX7_goDay_11 rfl rfl ?_
        refine ax_iload_1 (pc := 14) C dX7_goDay_14 ?_
        refine ax_ldc (pc := 15) C dX7_goDay_15 qX7_101 ?_
        refine ax_isn (pc := 17) C dX7_goDay_17 rfl (by omega) (by omega) ?_
        refine ax_aload_0 (pc := 18) C dX7_goDay_18 ?_
        refine ax_getR (pc := 19) C fX7_46 dX7_goDay_19 rfl rfl ?_
        refine ax_iload_1 (pc := 22) C dX7_goDay_22 ?_
        refine ax_iconst (pc := 23) (v := 0) C dX7_goDay_23 (by decide) ?_
        refine ax_isn (pc := 24) C dX7_goDay_24 rfl (by omega) (by omega) ?_
        refine ax_iinc_1 (pc := 25) C dX7_goDay_25 (1) (by decide) rfl ?_
        refine ax_goto (pc := 28) (tgt := 2) C dX7_goDay_28 (by decide) ?_
        refine ax_SLeq md_an_s (by rw [nI_1]) (ih (c + 1) (by omega) (by omega))
  refine ax_iconst (pc := 0) (v := 0) C dX7_goDay_0 (by decide) ?_
  refine ax_istore_1 (pc := 1) C dX7_goDay_1 rfl ?_
  exact ax_Seq md_an_0.symm (loop (n + 1) 0 (by omega) (by omega))

set_option maxRecDepth 20000 in
set_option maxHeartbeats 4000000 in
theorem w_X7_feed {Y : ax_Y} {ad : Nat → Nat} (F : ax_F Y) {l : Launch} {σ : ax_Z} {w : Int64} {n : Int32} {t : Nat} (ht : σ 77 11 = nI t) (ht4 : t ≤ 400) : ax_m Y ad l iX7_feed 1 σ [.ref (ad 77), .long w, .int n] (some (.int (if (1 ≤ n ∧ n ≤ 8) then (if (nI t + n ≤ 400) then nI (t + n.toNatClampNeg) else -1000003) else -1000001))) (if (1 ≤ n ∧ n ≤ 8) then (if (nI t + n ≤ 400) then mf_S (ax_up σ 77 0 0) w t n.toNatClampNeg n.toNatClampNeg else (ax_up σ 77 0 0)) else (ax_up σ 77 0 0)) := by
  refine ax_m.of F kX7_feed.1 [some (.ref (ad 77)), some (.long w), none, some (.int (n)), none] rfl (Nat.le_of_ble_eq_true rfl) (fun x C => ?_)
  refine ax_aload_0 (pc := 0) C dX7_feed_0 ?_
  refine ax_iconst (pc := 1) (v := 0) C dX7_feed_1 (by decide) ?_
  refine ax_putI (pc := 2) C fX7_65 dX7_feed_2 rfl rfl rfl rfl ?_
  refine ax_iload_3 (pc := 5) C dX7_feed_5 ?_
  refine ax_i2l (pc := 6) C dX7_feed_6 ?_
  refine ax_lconst (pc := 7) (v := 1) C dX7_feed_7 (by decide) ?_
  refine ax_ldc2 (pc := 8) C dX7_feed_8 qX7_90 ?_
  refine ax_callSi (pc := 11) C (w_X7_in F (lo := (1)) (hi := (8)) rfl rfl) kX7_in mX7_75 dX7_feed_11 (by decide) rfl rfl (Nat.le_of_ble_eq_true rfl) rfl ⟨Nat.le_refl _, Nat.le_refl _⟩ ?_
  refine ax_if_ne (pc := 14) (tgt := 20) C dX7_feed_14 (by decide) (fun h14 => ?_) (fun h14 => ?_)
  · have h14 := ax_bne h14
    refine ax_aload_0 (pc := 20) C dX7_feed_20 ?_
    refine ax_getI (pc := 21) C fX7_92 dX7_feed_21 rfl rfl ?_
    refine ax_val C (show _ = nI t by rw [up_o (by decide)]; exact ht) ?_
    refine ax_iload_3 (pc := 24) C dX7_feed_24 ?_
    refine ax_iadd (pc := 25) C dX7_feed_25 ?_
    refine ax_sipush (pc := 26) (v := 400) C dX7_feed_26 (by decide) ?_
    refine ax_icmp_le (pc := 29) (tgt := 35) C dX7_feed_29 (by decide) (fun h29 => ?_) (fun h29 => ?_)
    · obtain ⟨N, hN, rfl⟩ := ax_ix (m := 8) (by decide) (show 0 ≤ n ∧ n ≤ 8 from ⟨Int32.le_trans (by decide) h14.1, h14.2⟩)
      have eN : (nI N).toNatClampNeg = N := nI_clamp (by omega)
      have hNt : t + N ≤ 400 := by
        have h29 := h29
        rw [nI_add, show (400 : Int32) = nI 400 from rfl, nI_leI (by omega) (by omega)] at h29
        exact h29
      rw [if_pos h14, if_pos h29, if_pos h14, if_pos h29, eN]
      refine ax_iload_3 (pc := 35) C dX7_feed_35 ?_
      refine ax_iconst (pc := 36) (v := 1) C dX7_feed_36 (by decide) ?_
      refine ax_isub (pc := 37) C dX7_feed_37 ?_
      refine ax_istore_4 (pc := 38) C dX7_feed_38 rfl ?_
      have loop : ∀ (q : Nat) (k m : Nat), k + m = N → k < q → ax_S x Y ad 0 0 (ax_Q x Y ad (some (.int (nI (t + N)))) 96 (ax_g Y ad (mf_S (ax_up σ 77 0 0) w t N N)) 0 0) (mf_S (ax_up σ 77 0 0) w t N m) 40 [some (.ref (ad 77)), some (.long w), none, some (.int (nI N)), some (.int (nI k - 1))] [] := by
        intro q
        induction q with
        | zero => intro k m h1 h2; exfalso; omega
        | succ q ih =>
          intro k m h1 h2
          refine ax_iload_4 (pc := 40) C dX7_feed_40 ?_
          refine ax_if_lt (pc := 42) (tgt := 82) C dX7_feed_42 (by decide) (fun h42 => ?_) (fun h42 => ?_)
          · have hk0 : k = 0 := by
              rcases Nat.eq_zero_or_pos k with z | z
              · exact z
              · obtain ⟨k1, rfl⟩ : ∃ k1, k = k1 + 1 := ⟨k - 1, by omega⟩
                rw [nI_pred] at h42
                exact absurd h42 (nI_pos (by omega))
            refine ax_aload_0 (pc := 82) C dX7_feed_82 ?_
            refine ax_getI (pc := 83) C fX7_92 dX7_feed_83 rfl rfl ?_
            refine ax_val C (mf_S_l (by rw [up_o (by decide)]; exact ht)) ?_
            exact ax_ir (pc := 86) C rfl dX7_feed_86 (by rw [show m = N by omega]) (by rw [show m = N by omega])
          · obtain ⟨k1, rfl⟩ : ∃ k1, k = k1 + 1 := by
              rcases k with _ | k1
              · exact absurd (show (0 : Int32) - 1 < 0 by decide) h42
              · exact ⟨k1, rfl⟩
            rw [nI_pred]
            refine ax_aload_0 (pc := 45) C dX7_feed_45 ?_
            refine ax_getR (pc := 46) C fX7_28 dX7_feed_46 rfl rfl ?_
            refine ax_aload_0 (pc := 49) C dX7_feed_49 ?_
            refine ax_getI (pc := 50) C fX7_92 dX7_feed_50 rfl rfl ?_
            refine ax_val C (mf_S_l (by rw [up_o (by decide)]; exact ht)) ?_
            refine ax_lload_1 (pc := 53) C dX7_feed_53 ?_
            refine ax_bipush (pc := 54) (v := 8) C dX7_feed_54 (by decide) ?_
            refine ax_iload_4 (pc := 56) C dX7_feed_56 ?_
            refine ax_imul (pc := 58) C dX7_feed_58 ?_
            refine ax_lshr (pc := 59) C dX7_feed_59 ?_
            refine ax_ldc2 (pc := 60) C dX7_feed_60 qX7_96 ?_
            refine ax_land (pc := 63) C dX7_feed_63 ?_
            refine ax_l2i (pc := 64) C dX7_feed_64 ?_
            refine ax_isn (pc := 65) C dX7_feed_65 rfl (by omega) (by omega) ?_
            refine ax_aload_0 (pc := 66) C dX7_feed_66 ?_
            refine ax_dup (pc := 67) C dX7_feed_67 rfl ?_
            refine ax_getI (pc := 68) C fX7_92 dX7_feed_68 rfl rfl ?_
            refine ax_val C (show _ = nI (t + m) by rw [up_ne (by decide)]; exact (mf_S_l (by rw [up_o (by decide)]; exact ht))) ?_
            refine ax_iconst (pc := 71) (v := 1) C dX7_feed_71 (by decide) ?_
            refine ax_iadd (pc := 72) C dX7_feed_72 ?_
            refine ax_val C (nI_1 (t + m)) ?_
            refine ax_putI (pc := 73) C fX7_92 dX7_feed_73 rfl rfl rfl rfl ?_
            refine ax_iinc_4 (pc := 76) C dX7_feed_76 (-1) (by decide) rfl ?_
            refine ax_goto (pc := 79) (tgt := 40) C dX7_feed_79 (by decide) ?_
            refine ax_SLeq (by rw [mf_S, show N - 1 - m = k1 by omega]; rfl) ?_ (ih k1 (m + 1) (by omega) (by omega))
            simp only [Int32.sub_eq_add_neg]
      exact loop (N + 1) N 0 (by omega) (by omega)
    · refine ax_ldc (pc := 32) C dX7_feed_32 qX7_95 ?_
      exact ax_ir (pc := 34) C rfl dX7_feed_34 (by first | with_reducible rfl | (simp only [h14, h29, if_true, if_false, true_and, and_true, false_and, and_false, not_false_eq_true, not_true_eq_false]; done) | (simp only [h14, h29, if_true, if_false, true_and, and_true, false_and, and_false, not_false_eq_true, not_true_eq_false]; with_reducible rfl)) (by first | with_reducible rfl | (simp only [h14, h29, if_true, if_false, true_and, and_true, false_and, and_false, not_false_eq_true, not_true_eq_false]; done) | (simp only [h14, h29, if_true, if_false, true_and, and_true, false_and, and_false, not_false_eq_true, not_true_eq_false]; with_reducible rfl))
  · have h14 := ax_beq h14
    refine ax_ldc (pc := 17) C dX7_feed_17 qX7_85 ?_
    exact ax_ir (pc := 19) C rfl dX7_feed_19 (by first | with_reducible rfl | (simp only [h14, if_true, if_false, true_and, and_true, false_and, and_false, not_false_eq_true, not_true_eq_false]; done) | (simp only [h14, if_true, if_false, true_and, and_true, false_and, and_false, not_false_eq_true, not_true_eq_false]; with_reducible rfl)) (by first | with_reducible rfl | (simp only [h14, if_true, if_false, true_and, and_true, false_and, and_false, not_false_eq_true, not_true_eq_false]; done) | (simp only [h14, if_true, if_false, true_and, and_true, false_and, and_false, not_false_eq_true, not_true_eq_false]; with_reducible rfl))
