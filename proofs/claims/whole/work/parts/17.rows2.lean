/-! Math.min, arraycopy, wide constants; equal states -/
theorem mi_code : Cond.code Lib.Math.min.name Lib.Math.min.code 2 (some .int) ∈ ax_tb := ax_in 449 (by decide +kernel) rfl
theorem mi_stat : Cond.static Lib.Math.min.name ∈ ax_tb := ax_in 448 (by decide +kernel) rfl
theorem mi_init : Cond.initialized "java/lang/Math" ∈ ax_tb := ax_in 49 (by decide +kernel) rfl
theorem mi_X3 : Cond.methodLink RX3 54 Lib.Math.min.name ∈ ax_tb := ax_in 447 (by decide +kernel) rfl
theorem mi_X2 : Cond.methodLink RX2 58 Lib.Math.min.name ∈ ax_tb := ax_in 632 (by decide +kernel) rfl
theorem ac_stat : Cond.static arraycopyName ∈ ax_tb := ax_in 311 (by decide +kernel) rfl
theorem ac_nat : Cond.native arraycopyName ∈ ax_tb := ax_in 312 (by decide +kernel) rfl
theorem ac_init : Cond.initialized "java/lang/System" ∈ ax_tb := ax_in 44 (by decide +kernel) rfl
theorem ac_X6 : Cond.methodLink RX6 94 arraycopyName ∈ ax_tb := ax_in 310 (by decide +kernel) rfl
theorem ac_X3 : Cond.methodLink RX3 60 arraycopyName ∈ ax_tb := ax_in 450 (by decide +kernel) rfl
theorem ac_X0 : Cond.methodLink RX0 22 arraycopyName ∈ ax_tb := ax_in 464 (by decide +kernel) rfl
/-- cells from one row of numbers to another one -/
def ax_cp (σ : ax_Z) (k0 k1 s d n : Nat) : ax_Z := fun a => if a = k1 then va_cpy (σ k0) (σ k1) s d n else σ a
section AXR
variable {x : ax_T} {Y : ax_Y} {ad : Nat → Nat} {i : ax_I} {h mc ms kc ks pc : Nat} {Q : State → Prop} {σ σ' : ax_Z} {L L' : List (Option Value)} {st st' rest : List Value} {idx : Nat}
theorem ax_Leq (e : L = L') (kk : ax_S x Y ad kc ks Q σ pc L' st) : ax_S x Y ad kc ks Q σ pc L st := by
  subst e
  exact kk
theorem ax_SLeq (e0 : σ = σ') (e : L = L') (kk : ax_S x Y ad kc ks Q σ' pc L' st) : ax_S x Y ad kc ks Q σ pc L st := by
  subst e; subst e0
  exact kk
theorem ax_Seq (e0 : σ = σ') (kk : ax_S x Y ad kc ks Q σ' pc L st) : ax_S x Y ad kc ks Q σ pc L st := by
  subst e0
  exact kk
theorem ax_steq (e : st = st') (kk : ax_S x Y ad kc ks Q σ pc L st') : ax_S x Y ad kc ks Q σ pc L st := by
  subst e
  exact kk
theorem ax_min (C : ax_C x Y i h mc ms) {a b : Int32} (hh : 1 ≤ h) (lk : Cond.methodLink i.1.cls idx Lib.Math.min.name ∈ ax_tb) (hd : decode i.2.1 pc = .ok (.invokestatic idx, 3)) (hw : (st.map fun v => v.category).sum ≤ 8) (hnL : L.length = i.2.2.1) (hc : kc ≤ mc ∧ ks ≤ ms)
    (kk : ax_S x Y ad kc ks Q σ (pc + 3) L (.int (if b < a then b else a) :: st)) : ax_S x Y ad kc ks Q σ pc L (.int b :: .int a :: st) := by
  obtain ⟨q1, q2, q3, q4⟩ := C.room
  intro H ls locs hP hD hS hL
  exact va_mmin C.exec C.bytes (C.maxL.trans (hnL.symm.trans hL.1.symm)) C.own (C.hts _ lk) (C.hts _ mi_stat) (C.hts _ mi_init) (C.hts _ mi_code) (Nat.le_trans hh q1) (by omega) (by omega) (by omega) hd (kk H ls locs hP hD hS hL)
theorem ax_ldcw (C : ax_C x Y i h mc ms) {n : Nat} {v : Int32} (hd : decode i.2.1 pc = .ok (.ldc_w n, 3)) (hc : Cond.constant i.1.cls n v ∈ ax_tb) (kk : ax_S x Y ad kc ks Q σ (pc + 3) L (.int v :: st)) : ax_S x Y ad kc ks Q σ pc L st := ax_lift (fun _ _ _ k => lv_ldcw C.exec C.bytes C.own (C.hts _ hc) hd k) kk
theorem ax_g_row {k : Nat} {f : Nat → Int32} {e : va_E} (he : ax_cel Y.2.1 ad (ax_sh k) f = e) : va_up (ax_g Y ad σ) k e = ax_g Y ad (fun a => if a = k then f else σ a) := by
  funext a
  by_cases hq : a = k
  · subst hq
    simp only [va_up, if_true, ax_g]
    exact he.symm
  · simp only [va_up, if_neg hq, ax_g]
theorem ax_copy (C : ax_C x Y i h mc ms) {k0 k1 n0 n1 s d n : Nat} (hh : 1 ≤ h) (lk : Cond.methodLink i.1.cls idx arraycopyName ∈ ax_tb) (hd : decode i.2.1 pc = .ok (.invokestatic idx, 3)) (hs0 : ax_sh k0 = .inl (0, n0)) (hs1 : ax_sh k1 = .inl (0, n1)) (l0 : s + n ≤ n0) (l1 : d + n ≤ n1) (m0 : n0 < 2000) (m1 : n1 < 2000) (hw : (st.map fun v => v.category).sum ≤ 8) (hnL : L.length = i.2.2.1)
    (kk : ax_S x Y ad kc ks Q (ax_cp σ k0 k1 s d n) (pc + 3) L st) : ax_S x Y ad kc ks Q σ pc L (.int (nI n) :: .int (nI d) :: .ref (ad k1) :: .int (nI s) :: .ref (ad k0) :: st) := by
  obtain ⟨q1, q2, q3, q4⟩ := C.room
  intro H ls locs hP hD hS hL
  refine va_copyi (ty := .int) C.exec C.bytes (C.maxL.trans (hnL.symm.trans hL.1.symm)) C.own (C.hts _ lk) (C.hts _ ac_nat) (C.hts _ ac_stat) (C.hts _ ac_init) C.hK hP hD hS k0 k1 0 0 (by rw [ax_hw_get (ax_sh_lt_a hs0 (by decide)), ax_g_arr hs0 (by decide)]) (by rw [ax_hw_get (ax_sh_lt_a hs1 (by decide)), ax_g_arr hs1 (by decide)]) rfl rfl rfl (nI_pos (by omega)) (nI_pos (by omega)) (nI_pos (by omega)) (by rw [nI_clamp (by omega), nI_clamp (by omega)]; exact l0) (by rw [nI_clamp (by omega), nI_clamp (by omega)]; exact l1) (fun _ _ => rfl) (Nat.le_trans hh q1) ?_ hd (fun H1 locs1 hP1 hD1 hS1 => ?_)
  · have e : nativeFrameWords "java/lang/System" "arraycopy" 5 + 11 ≤ 50 := by decide
    omega
  · rw [nI_clamp (by omega), nI_clamp (by omega), nI_clamp (by omega)] at hP1 hD1
    have e : va_up (ax_g Y ad σ) k1 (.inl (Y.2.1 0, n1, .inl (va_cpy (σ k0) (σ k1) s d n))) = ax_g Y ad (ax_cp σ k0 k1 s d n) := ax_g_row (by rw [hs1]; exact ax_cel_arr (by decide))
    rw [ax_hw_set, e] at hP1 hD1
    exact kk H1 ls locs1 hP1 hD1 hS1 hL
end AXR
