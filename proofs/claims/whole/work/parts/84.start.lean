theorem df6 : ∀ j, j < 9 → defaultValue (tyX6 j) = vp_V [.null, .null, .null, .null, .null, .null, .null, .int 0, .int 0] j := by decide +kernel
theorem df7 : ∀ j, j < 35 → defaultValue (tyX7 j) = vp_V [.int 0, .int 0, .null, .null, .null, .null, .null, .int 0, .null, .int 0, .null, .int 0, .int 0, .int 0, .int 0, .int 0, .int 0, .int 0, .int 0, .int 0, .int 0, .null, .null, .null, .null, .null, .null, .null, .null, .int 0, .int 0, .null, .null, .null, .int 0] j := by decide +kernel
theorem ok_77 : ∀ k : Fin 77, k.1 = 1 ∨ k.1 = 24 ∨ okN 77 k.1 = true := by decide +kernel
/-- classes and rows' classes as the start has them -/
theorem law_K {s : State} {b : Nat} (hts : ∀ w ∈ lw_tbl, w.before #[Value.ref b] s = true) : ∃ (D : va_G) (cA : Nat → ClassId), va_K D vwCl (ax_tys cA) s := by
  have ht2 : ∀ w ∈ ax_tb, w.before #[Value.ref b] s = true := fun w hw => hts w (List.mem_filter.mp hw).1
  obtain ⟨c0, i0, k0⟩ := u_known (ws := ax_tb) ht2 clX0.2.1 (ht2 _ is_0)
  obtain ⟨c1, i1, k1⟩ := u_known (ws := ax_tb) ht2 clX1.2.1 (ht2 _ is_1)
  obtain ⟨c2, i2, k2⟩ := u_known (ws := ax_tb) ht2 clX2.2.1 (ht2 _ is_2)
  obtain ⟨c3, i3, k3⟩ := u_known (ws := ax_tb) ht2 clX3.2.1 (ht2 _ is_3)
  obtain ⟨c4, i4, k4⟩ := u_known (ws := ax_tb) ht2 clX4.2.1 (ht2 _ is_4)
  obtain ⟨c5, i5, k5⟩ := u_known (ws := ax_tb) ht2 clX5.2.1 (ht2 _ is_5)
  obtain ⟨c6, i6, k6⟩ := u_known (ws := ax_tb) ht2 clX6.2.1 (ht2 _ is_6)
  obtain ⟨c7, i7, k7⟩ := u_known (ws := ax_tb) ht2 clX7.2.1 (ht2 _ is_7)
  obtain ⟨a0, ka0, co0, fa0, ha0, hk0⟩ := Cond.arrayClass_spec (ht2 _ ar_i)
  obtain ⟨a1, ka1, co1, fa1, ha1, hk1⟩ := Cond.arrayClass_spec (ht2 _ ar_b)
  obtain ⟨a2, ka2, co2, fa2, ha2, hk2⟩ := Cond.arrayClass_spec (ht2 _ ar_z)
  obtain ⟨co3, a3, ka3, fc3, fi3, ha3, hk3, fa3⟩ := Cond.arrayOver_spec (hts _ ao_5)
  obtain ⟨co4, a4, ka4, fc4, fi4, ha4, hk4, fa4⟩ := Cond.arrayOver_spec (hts _ ao_3)
  refine ⟨(fun c => match c with
    | 0 => c0
    | 1 => c1
    | 2 => c2
    | 3 => c3
    | 4 => c4
    | 5 => c5
    | 6 => c6
    | _ => c7, fun c => match c with
    | 0 => i0
    | 1 => i1
    | 2 => i2
    | 3 => i3
    | 4 => i4
    | 5 => i5
    | 6 => i6
    | _ => i7), fun t => match t with
    | 0 => a0
    | 1 => a1
    | 2 => a2
    | 3 => a3
    | _ => a4, fun c q hq => ?_, fun t q hq => ?_⟩
  · match c, hq with
    | 0, hq => cases hq; exact k0
    | 1, hq => cases hq; exact k1
    | 2, hq => cases hq; exact k2
    | 3, hq => cases hq; exact k3
    | 4, hq => cases hq; exact k4
    | 5, hq => cases hq; exact k5
    | 6, hq => cases hq; exact k6
    | 7, hq => cases hq; exact k7
    | c + 8, hq => cases hq
  · match t, hq with
    | 0, hq => cases hq; exact ⟨fun n z => ⟨fun k h => (by cases h), ka0, ha0, co0, hk0⟩, fa0⟩
    | 1, hq => cases hq; exact ⟨fun n z => ⟨fun k h => (by cases h), ka1, ha1, co1, hk1⟩, fa1⟩
    | 2, hq => cases hq; exact ⟨fun n z => ⟨fun k h => (by cases h), ka2, ha2, co2, hk2⟩, fa2⟩
    | 3, hq => cases hq; exact ⟨fun n z => ⟨fun k h => (by cases h), ka3, ha3, co3, hk3⟩, ka3, co3, ha3, hk3, fc3, fa3⟩
    | 4, hq => cases hq; exact ⟨fun n z => ⟨fun k h => (by cases h), ka4, ha4, co4, hk4⟩, ka4, co4, ha4, hk4, fc4, fa4⟩
    | t + 5, hq => cases hq
/-- YOUR PART: from the entry, for every script of at most 3072 ints, the law comes to its end with true ('hflags': the launch's flags, for a law that throws: no stack traces) -/
theorem whole_start {p : Program} {e : Env} {s : State} {m : MethodId} {below : List Frame} {meth : Method} {c : Code} (l : Launch) (hflags : l.flags = flags0) {b L : Nat} {xs : Nat → Int32} (hL : L ≤ 3072) (C0 : lw_At p s m meth c b L xs) : W p l e room_1 s m #[Value.ref b] below meth c s.heap [] 0 0 (lw_Z below #[Value.ref b] s) (entryFrame m ([Value.ref b] : List Value).toArray 4) := by
  obtain ⟨hx, hbc, hr, hml, hown, hts, hX, hbl, hlk, hgv⟩ := C0
  have ht2 : ∀ w ∈ ax_tb, w.before #[Value.ref b] s = true := fun w hw => hts w (List.mem_filter.mp hw).1
  obtain ⟨D, cA, K⟩ := law_K hts
  have F : ax_F (D, cA, s) := ⟨b, hts, K, hgv⟩
  have C : ax_C ((p, l, e, room_1), (s, m, #[Value.ref b]), (below, meth, c)) (D, cA, s) iL 20 600000 7302250 := ⟨hx, hbc, hml, hown, ht2, K, hr, hlk, ⟨show 20 ≤ room_1.frames by decide, show 64 * 20 ≤ room_1.locals by decide, rfl, rfl⟩, ⟨State.WarmedH.refl s, va_S.rf⟩, F, fun h => absurd h (by decide)⟩
  have B : ax_V ((p, l, e, room_1), (s, m, #[Value.ref b]), (below, meth, c)) (D, cA, s) (fun _ => 0) 0 0 (lw_Z below #[Value.ref b] s) 0 (fun _ => .inr (0, [])) 0 [some (.ref b), none, none, none] [] := by
    refine ai_new (pc := 0) (fs := [.null, .null, .null, .null, .null, .null, .null, .int 0, .int 0]) C clX6 cn_L6 is_6 it_6 df6 dL_law_0 ⟨by decide, by decide⟩ (fun q => ?_)
    have hq : va_up (fun _ => 0) 0 q 0 = q := va_up_self _ _ _
    generalize va_up (fun _ => 0) 0 q = ad1 at hq ⊢
    subst hq
    refine ax_dup (pc := 3) C dL_law_3 rfl ?_
    refine ai_callI (pc := 4) (p := 0) C (n_X6 F) kX6_init im_6 rfl rfl mL_9 dL_law_4 (by decide) (va_up_self _ _ _) (Nat.le_of_ble_eq_true rfl) rfl ⟨by decide, by decide⟩ (fun ad2 h2 => ?_)
    rw [← h2 0 (by decide)]
    refine ax_astore_1 (pc := 7) C dL_law_7 rfl ?_
    refine ax_Vg (g' := ax_g (D, cA, s) ad2 ax_i0) (fun k _ => if_neg (Nat.not_lt_zero k)) ?_
    refine ai_new (pc := 8) (fs := [.int 0, .int 0, .null, .null, .null, .null, .null, .int 0, .null, .int 0, .null, .int 0, .int 0, .int 0, .int 0, .int 0, .int 0, .int 0, .int 0, .int 0, .int 0, .null, .null, .null, .null, .null, .null, .null, .null, .int 0, .int 0, .null, .null, .null, .int 0]) C clX7 cn_L7 is_7 it_7 df7 dL_law_8 ⟨by decide, by decide⟩ (fun q => ?_)
    have h3 : ∀ k, k < 77 → va_up ad2 77 q k = ad2 k := fun k hk => va_up_ne _ _ (by omega)
    have hq : va_up ad2 77 q 77 = q := va_up_self _ _ _
    generalize va_up ad2 77 q = ad3 at h3 hq ⊢
    subst hq
    refine ax_VL (L' := [some (.ref b), some (.ref (ad3 0)), none, none]) (by rw [h3 0 (by decide)]) ?_
    refine ax_dup (pc := 11) C dL_law_11 rfl ?_
    refine ai_callI (pc := 12) (p := 77) C (n_X7 F) kX7_init im_7 rfl rfl mL_12 dL_law_12 (by decide) (va_up_self _ _ _) (Nat.le_of_ble_eq_true rfl) rfl ⟨by decide, by decide⟩ (fun ad4 h4 => ?_)
    rw [← h4 77 (by decide)]
    refine ax_astore_2 (pc := 15) C dL_law_15 rfl ?_
    refine ax_VL (L' := [some (.ref b), some (.ref (ad4 0)), some (.ref (ad4 77)), none]) (by rw [h4 0 (by decide)]) ?_
    have h24 : ∀ k, k < 77 → ad4 k = ad2 k := fun k hk => (h4 k (by omega)).trans (h3 k hk)
    refine ax_Vw (g' := ax_g (D, cA, s) ad4 ax_i0) (fun k hk => ?_) ?_
    · by_cases hk7 : k < 77
      · rcases ok_77 ⟨k, hk7⟩ with z | z | z
        · have z' : k = 1 := z
          subst z'
          refine Or.inr ⟨cA 3, _, _, rfl, rfl, ?_⟩
          rw [vp_cell_q, vp_cell_q]
          exact arrV_c (fun j hj => by rw [h24 _ (by omega)])
        · have z' : k = 24 := z
          subst z'
          refine Or.inr ⟨cA 4, _, _, rfl, rfl, ?_⟩
          rw [vp_cell_q, vp_cell_q]
          exact arrV_c (fun j hj => by rw [h24 _ (by omega)])
        · refine Or.inl ?_
          unfold gB
          rw [if_pos hk7, va_up_ne _ _ (by omega)]
          exact (g_ok z h24).symm
      · exact Or.inl (if_neg hk7)
    · refine ax_iconst (pc := 16) (v := 0) C dL_law_16 (by decide) ?_
      refine ax_istore_3 (pc := 17) C dL_law_17 rfl ?_
      refine law_loop (b := b) (Ls := L) (xs := xs) C hX hbl hL (fun σ i => ?_) (L + 1) 0 ax_i0 RR_0 (Nat.zero_le L) (by omega)
      refine ax_iconst (pc := 1094) (v := 1) C dL_law_1094 (by decide) ?_
      intro H ls locs hP hD hS hL
      refine va_forget (fun q hq => hS.2.2 q hq) ?_
      refine W.widen (k := 600000) (n := 7302250) (by decide) (by decide) ?_
      exact lw_ret hx hbc hr hlk dL_law_1095
  rw [lg_entry_eq]
  exact B s.heap _ [] (fun k q hk => by simp [ax_hw] at hk) ⟨fun i j p q hi _ _ => by simp [ax_hw] at hi, fun k q hk => by simp [ax_hw] at hk⟩ va_S.rf (ax_entry (n := 4) (av := [.ref b]) (Nat.le_of_ble_eq_true rfl))
