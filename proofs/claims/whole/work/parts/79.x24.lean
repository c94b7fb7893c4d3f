/-! FirstCart's own constructor, Reader's, Foretold's -/
def okN (N k : Nat) : Bool := match ax_sh k with
  | .inl (t, _) => decide (t < 3)
  | .inr (_, fl) => fl.all (fun z => match z with
    | some o => decide (o < N)
    | none => true)
theorem ax_fs_c {ad ad' : Nat → Nat} {fl : List (Option Nat)} {f : Nat → Int32} (h : ∀ o, some o ∈ fl → ad' o = ad o) : ax_fs ad' fl f = ax_fs ad fl f := by
  unfold ax_fs
  refine List.map_congr_left (fun q hq => ?_)
  have hm : q.1 ∈ fl := by
    obtain ⟨i, hi⟩ := List.getElem?_of_mem hq
    rw [List.getElem?_zipIdx] at hi
    cases hf : fl[i]? with
    | none =>
      rw [hf] at hi
      cases hi
    | some z =>
      rw [hf] at hi
      cases hi
      exact List.mem_of_getElem? hf
  cases hz : q.1 with
  | none => rfl
  | some o =>
    rw [hz] at hm
    show Value.ref (ad' o) = Value.ref (ad o)
    rw [h o hm]
theorem g_ok {Y : ax_Y} {ad ad' : Nat → Nat} {σ : ax_Z} {N k : Nat} (h : okN N k = true) (e : ∀ o, o < N → ad' o = ad o) : ax_g Y ad' σ k = ax_g Y ad σ k := by
  unfold okN at h
  cases hs : ax_sh k with
  | inl q =>
    obtain ⟨t, n⟩ := q
    rw [hs] at h
    have ht : t < 3 := of_decide_eq_true h
    rw [ax_g_arr hs ht, ax_g_arr hs ht]
  | inr q =>
    obtain ⟨ci, fl⟩ := q
    rw [hs] at h
    rw [ax_g_obj hs, ax_g_obj hs, ax_fs_c (ad := ad) (ad' := ad')]
    intro o ho
    have := List.all_eq_true.mp h (some o) ho
    exact e o (of_decide_eq_true this)
/-- FirstCart's world while it is made: its fields, its rows, its images so far -/
def g6 (Y : ax_Y) (F : List Value) (R I : Nat → Option Nat) (ad : Nat → Nat) : Nat → va_E := fun j => if j = 0 then .inr (6, F) else if j = 1 then .inl (Y.2.1 3, 8, .inr (.inr (.inr (.inr R)))) else if j = 24 then .inl (Y.2.1 4, 2, .inr (.inr (.inr (.inr I)))) else ax_g Y ad ax_i0 j
def ok6 (N : Nat) : Bool := (List.range N).all (fun k => decide (k = 0) || decide (k = 1) || decide (k = 24) || okN N k)
section G6
variable {Y : ax_Y} {F F' : List Value} {R I R' I' : Nat → Option Nat} {ad ad' : Nat → Nat}
theorem g6_0 : g6 Y F R I ad 0 = .inr (6, F) := rfl
theorem g6_1 : g6 Y F R I ad 1 = .inl (Y.2.1 3, 8, .inr (.inr (.inr (.inr R)))) := rfl
theorem g6_24 : g6 Y F R I ad 24 = .inl (Y.2.1 4, 2, .inr (.inr (.inr (.inr I)))) := rfl
theorem g6_n {k : Nat} (h : k ≠ 0 ∧ k ≠ 1 ∧ k ≠ 24) : g6 Y F R I ad k = ax_g Y ad ax_i0 k := by
  unfold g6
  rw [if_neg h.1, if_neg h.2.1, if_neg h.2.2]
theorem g6_c {N k : Nat} (hok : ok6 N = true) (e : ∀ o, o < N → ad' o = ad o) (hk : k < N) : g6 Y F R I ad k = g6 Y F R I ad' k := by
  by_cases h0 : k = 0
  · subst h0; rfl
  by_cases h1 : k = 1
  · subst h1; rfl
  by_cases h2 : k = 24
  · subst h2; rfl
  rw [g6_n ⟨h0, h1, h2⟩, g6_n ⟨h0, h1, h2⟩]
  have q := List.all_eq_true.mp hok k (List.mem_range.mpr hk)
  rw [decide_eq_false h0, decide_eq_false h1, decide_eq_false h2, Bool.false_or, Bool.false_or, Bool.false_or] at q
  exact (g_ok q e).symm
theorem g6_up {k : Nat} : va_up (g6 Y F R I ad) 0 (.inr (6, F')) k = g6 Y F' R I ad k := by
  by_cases h0 : k = 0
  · subst h0; rfl
  · rw [va_up_ne _ _ h0]
    unfold g6
    rw [if_neg h0, if_neg h0]
theorem g6_up1 {k : Nat} : va_up (g6 Y F R I ad) 1 (.inl (Y.2.1 3, 8, .inr (.inr (.inr (.inr R'))))) k = g6 Y F R' I ad k := by
  by_cases h1 : k = 1
  · subst h1; rfl
  · rw [va_up_ne _ _ h1]
    unfold g6
    rw [if_neg h1, if_neg h1]
theorem g6_up24 {k : Nat} : va_up (g6 Y F R I ad) 24 (.inl (Y.2.1 4, 2, .inr (.inr (.inr (.inr I'))))) k = g6 Y F R I' ad k := by
  by_cases h1 : k = 24
  · subst h1; rfl
  · rw [va_up_ne _ _ h1]
    unfold g6
    rw [if_neg h1, if_neg h1]
theorem g6_a {N k : Nat} {e0 : va_E} (hok : ok6 N = true) (e : ∀ o, o < N → ad' o = ad o) (hk : k < N + 1) : va_up (g6 Y F R I ad) N e0 k = va_up (g6 Y F R I ad') N e0 k := by
  by_cases h : k = N
  · subst h
    rw [va_up_self, va_up_self]
  · rw [va_up_ne _ _ h, va_up_ne _ _ h]
    exact g6_c hok e (by omega)
theorem g6_B {p q k : Nat} {e0 : va_E} (hp : 1 < p) (hpq : p ≠ 24 ∧ (24 < p ∨ q ≤ 24)) (hok : ok6 p = true) (e : ∀ o, o < p + 1 → ad' o = ad o) (hk : k < q) : gB Y ad' p (va_up (g6 Y F R I ad) p e0) k = g6 Y F R I ad' k := by
  unfold gB
  by_cases h : k < p
  · rw [if_pos h, va_up_ne _ _ (by omega)]
    exact g6_c hok (fun o ho => e o (by omega)) h
  · rw [if_neg h, g6_n (by omega)]
end G6
def rwF (ad : Nat → Nat) (r : Nat) : Nat → Option Nat := fun j => if j < r then some (ad (41 + 2 * j)) else none
def imF (ad : Nat → Nat) (r : Nat) : Nat → Option Nat := fun j => if j < r then some (ad (57 + 10 * j)) else none
theorem rwF_c {ad ad' : Nat → Nat} {r : Nat} (h : ∀ j, j < r → ad' (41 + 2 * j) = ad (41 + 2 * j)) : rwF ad r = rwF ad' r := by
  funext j
  unfold rwF
  by_cases hj : j < r
  · rw [if_pos hj, if_pos hj, h j hj]
  · rw [if_neg hj, if_neg hj]
theorem imF_c {ad ad' : Nat → Nat} {r : Nat} (h : ∀ j, j < r → ad' (57 + 10 * j) = ad (57 + 10 * j)) : imF ad r = imF ad' r := by
  funext j
  unfold imF
  by_cases hj : j < r
  · rw [if_pos hj, if_pos hj, h j hj]
  · rw [if_neg hj, if_neg hj]
theorem rwF_s {ad : Nat → Nat} {r : Nat} : va_up (rwF ad r) r (some (ad (41 + 2 * r))) = rwF ad (r + 1) := by
  funext j
  unfold va_up rwF
  by_cases e : j = r
  · subst e
    rw [if_pos rfl, if_pos (by omega)]
  · rw [if_neg e]
    by_cases h : j < r
    · rw [if_pos h, if_pos (by omega)]
    · rw [if_neg h, if_neg (by omega)]
theorem imF_s {ad : Nat → Nat} {r : Nat} : va_up (imF ad r) r (some (ad (57 + 10 * r))) = imF ad (r + 1) := by
  funext j
  unfold va_up imF
  by_cases e : j = r
  · subst e
    rw [if_pos rfl, if_pos (by omega)]
  · rw [if_neg e]
    by_cases h : j < r
    · rw [if_pos h, if_pos (by omega)]
    · rw [if_neg h, if_neg (by omega)]
theorem rwF_0 {ad : Nat → Nat} : (fun _ => none) = rwF ad 0 := rfl
theorem imF_0 {ad : Nat → Nat} : (fun _ => none) = imF ad 0 := rfl
theorem arrV_c {cA : ClassId} {n : Nat} {f f' : Nat → Value} (h : ∀ j, j < n → f j = f' j) : arrV cA n f = arrV cA n f' := by
  unfold arrV
  congr 1
  congr 1
  funext j
  exact h j.1 j.2
/-- worlds whose cells hold the same -/
theorem ax_Vw {x : ax_T} {Y : ax_Y} {ad : Nat → Nat} {kc ks N pc : Nat} {Q : State → Prop} {g g' : Nat → va_E} {L : List (Option Value)} {st : List Value} (e : ∀ k, k < N → g k = g' k ∨ ∃ cA a a', g k = .inl (cA, a) ∧ g' k = .inl (cA, a') ∧ vp_cell cA a = vp_cell cA a') (kk : ax_V x Y ad kc ks Q N g' pc L st) : ax_V x Y ad kc ks Q N g pc L st := by
  intro H ls locs hP hD hS hL
  refine kk H ls locs (fun k q hk => ?_) (ax_D_any hD) hS hL
  obtain ⟨hlt, rfl⟩ := ax_hw_lt hk
  have h0 := hP k (ad k, g k) (ax_hw_get hlt)
  rcases e k hlt with z | ⟨cA, a, a', z1, z2, z3⟩
  · rw [← z]
    exact h0
  · rw [z2]
    rw [z1] at h0
    show H[ad k]? = some (vp_cell cA a')
    rw [← z3]
    exact h0
abbrev d3 : List Value := [.null, .null, .null, .null, .null, .null, .null, .null, .null, .int 0, .int 0, .int 0]
theorem df3 : ∀ j, j < 12 → defaultValue (tyX3 j) = vp_V d3 j := by decide +kernel
theorem df0 : ∀ j, j < 3 → defaultValue (tyX0 j) = vp_V [.null, .null, .int 0] j := by decide +kernel
theorem df1 : ∀ j, j < 2 → defaultValue (tyX1 j) = vp_V [.null, .int 0] j := by decide +kernel
theorem df2 : ∀ j, j < 1 → defaultValue (tyX2 j) = vp_V [.null] j := by decide +kernel
theorem df4 : ∀ j, j < 8 → defaultValue (tyX4 j) = vp_V [.null, .int 0, .null, .int 0, .int 0, .int 0, .int 0, .int 0] j := by decide +kernel
theorem df5 : ∀ j, j < 4 → defaultValue (tyX5 j) = vp_V [.null, .int 0, .int 0, .int 0] j := by decide +kernel
/-- an object's part in this: it is cell p, a Pass comes at r -/
theorem fw_o {Y : ax_Y} {g : Nat → va_E} {p ci r q k : Nat} {fs : List Value} {ad ad' : Nat → Nat} {e0 : va_E} (hp : p < r) (har : ∀ k, p < k → k < r → shA k) : gB Y ad' r (va_up (fw Y g p ci fs ad) r e0) k = fw Y g p ci fs ad' k := by
  unfold gB
  by_cases h : k < r
  · rw [if_pos h, va_up_ne _ _ (by omega)]
    by_cases h1 : k < p
    · rw [fw_lt h1, fw_lt h1]
    · by_cases h2 : k = p
      · subst h2
        rw [fw_p, fw_p]
      · rw [fw_gt (by omega), fw_gt (by omega)]
        exact g_A (har k (by omega) h)
  · rw [if_neg h, fw_gt (by omega)]
theorem fw_a {Y : ax_Y} {g : Nat → va_E} {p ci r k : Nat} {fs : List Value} {ad ad' : Nat → Nat} {e0 : va_E} (hp : p < r) (har : ∀ k, p < k → k < r → shA k) (hk : k < r + 1) : va_up (fw Y g p ci fs ad) r e0 k = va_up (fw Y g p ci fs ad') r e0 k := by
  by_cases h : k = r
  · subst h
    rw [va_up_self, va_up_self]
  · rw [va_up_ne _ _ h, va_up_ne _ _ h]
    by_cases h1 : k < p
    · rw [fw_lt h1, fw_lt h1]
    · by_cases h2 : k = p
      · subst h2
        rw [fw_p, fw_p]
      · rw [fw_gt (by omega), fw_gt (by omega)]
        exact g_A (har k (by omega) (by omega))
set_option maxRecDepth 20000 in
set_option maxHeartbeats 4000000 in
theorem n_X2 {Y : ax_Y} (F : ax_F Y) {l : Launch} : ax_MI Y l iX2_init 2 10 79 28 39 (.inr (2, [.null])) := by
  refine ax_MI.of F kX2_init (by decide) (fun x ad0 g hg C => ?_)
  refine ax_VL (L' := [some (.ref (ad0 28))]) rfl ?_
  refine ax_aload_0 (pc := 0) C dX2_init_0 ?_
  refine ai_obj (pc := 1) C ob_2 dX2_init_1 (by decide) (by decide) rfl ?_
  refine ax_Vg (fun k hk => fw_0 (Y := Y) (ad := ad0) hg hk) ?_
  refine ax_aload_0 (pc := 4) C dX2_init_4 ?_
  refine ai_new (pc := 5) (fs := d3) C clX3 cn_23 is_3 it_3 df3 dX2_init_5 ⟨by decide, by decide⟩ (fun q => ?_)
  have hx : ∀ k, k < 29 → va_up ad0 29 q k = ad0 k := fun k hk => va_up_ne _ _ (by omega)
  have hq : va_up ad0 29 q 29 = q := va_up_self _ _ _
  refine ax_Vg (fun k hk => fw_a (ad' := va_up ad0 29 q) (by decide) (fun k h1 h2 => absurd h2 (by omega)) hk) ?_
  generalize va_up ad0 29 q = ad at hx hq ⊢
  subst hq
  rw [← hx 28 (by decide)]
  refine ax_dup (pc := 8) C dX2_init_8 rfl ?_
  refine ai_callI (pc := 9) (p := 29) C (n_X3 F ax_day) kX3_init im_3 rfl rfl mX2_11 dX2_init_9 (by decide) (va_up_self _ _ _) (Nat.le_of_ble_eq_true rfl) rfl ⟨by decide, by decide⟩ (fun ad2 h2 => ?_)
  rw [← h2 28 (by decide), ← h2 29 (by decide)]
  refine ax_Vg (fun k hk => fw_o (q := 39) (by decide) (fun k h1 h2 => absurd h2 (by omega))) ?_
  refine ai_putF (pc := 12) (k := 28) C fX2_12 dX2_init_12 (by decide) rfl fw_p rfl (fun q hq => by cases hq; rfl) rfl rfl (Nat.le_of_ble_eq_true rfl) ?_
  refine ax_Vg (fun k _ => fw_up) ?_
  exact ai_vret (pc := 15) C rfl dX2_init_15 (fun k hk => (h2 k (by omega)).trans (hx k hk)) (fun k _ => fw_B rfl (by rw [ax_i0_0 (by decide)]; rfl))
set_option maxRecDepth 20000 in
set_option maxHeartbeats 4000000 in
theorem n_X4 {Y : ax_Y} (F : ax_F Y) {l : Launch} : ax_MI Y l iX4_init 2 11 479 2 14 (.inr (4, [.null, .int 0, .null, .int 0, .int 0, .int 0, .int 0, .int 0])) := by
  refine ax_MI.of F kX4_init (by decide) (fun x ad0 g hg C => ?_)
  refine ax_VL (L' := [some (.ref (ad0 2))]) rfl ?_
  refine ax_aload_0 (pc := 0) C dX4_init_0 ?_
  refine ai_obj (pc := 1) C ob_4 dX4_init_1 (by decide) (by decide) rfl ?_
  refine ax_Vg (fun k hk => fw_0 (Y := Y) (ad := ad0) hg hk) ?_
  refine ax_aload_0 (pc := 4) C dX4_init_4 ?_
  refine ax_sipush (pc := 5) (v := 400) C dX4_init_5 (by decide) ?_
  refine ai_newB (pc := 8) (n := 400) C rfl (by decide) dX4_init_8 ⟨by decide, by decide⟩ (fun q => ?_)
  have hx : ∀ k, k < 3 → va_up ad0 3 q k = ad0 k := fun k hk => va_up_ne _ _ (by omega)
  have hq : va_up ad0 3 q 3 = q := va_up_self _ _ _
  refine ax_Vg (fun k hk => fw_new (ad' := va_up ad0 3 q) (by decide) rfl (by decide) (by decide) (fun k h1 h2 => absurd h2 (by omega)) hk) ?_
  generalize va_up ad0 3 q = ad at hx hq ⊢
  subst hq
  rw [← hx 2 (by decide)]
  refine ai_putF (pc := 10) (k := 2) C fX4_9 dX4_init_10 (by decide) rfl fw_p rfl (fun q hq => by cases hq; rfl) rfl rfl (Nat.le_of_ble_eq_true rfl) ?_
  refine ax_Vg (fun k _ => fw_up) ?_
  refine ax_aload_0 (pc := 13) C dX4_init_13 ?_
  refine ai_new (pc := 14) (fs := d3) C clX3 cn_43 is_3 it_3 df3 dX4_init_14 ⟨by decide, by decide⟩ (fun q => ?_)
  have hy : ∀ k, k < 4 → va_up ad 4 q k = ad k := fun k hk => va_up_ne _ _ (by omega)
  have hq : va_up ad 4 q 4 = q := va_up_self _ _ _
  refine ax_Vg (fun k hk => fw_a (ad' := va_up ad 4 q) (by decide) (fun k h1 h2 => ⟨1, 400, by decide, by rw [show k = 3 by omega]; rfl⟩) hk) ?_
  generalize va_up ad 4 q = ad1 at hy hq ⊢
  subst hq
  rw [← hy 2 (by decide), ← hy 3 (by decide)]
  refine ax_dup (pc := 17) C dX4_init_17 rfl ?_
  refine ai_callI (pc := 18) (p := 4) C (n_X3 F ax_dra) kX3_init im_3 rfl rfl mX4_17 dX4_init_18 (by decide) (va_up_self _ _ _) (Nat.le_of_ble_eq_true rfl) rfl ⟨by decide, by decide⟩ (fun ad2 h2 => ?_)
  rw [← h2 2 (by decide), ← h2 3 (by decide), ← h2 4 (by decide)]
  refine ax_Vg (fun k hk => fw_o (q := 14) (by decide) (fun k h1 h2 => ⟨1, 400, by decide, by rw [show k = 3 by omega]; rfl⟩)) ?_
  refine ai_putF (pc := 21) (k := 2) C fX4_18 dX4_init_21 (by decide) rfl fw_p rfl (fun q hq => by cases hq; rfl) rfl rfl (Nat.le_of_ble_eq_true rfl) ?_
  refine ax_Vg (fun k _ => fw_up) ?_
  exact ai_vret (pc := 24) C rfl dX4_init_24 (fun k hk => (h2 k (by omega)).trans ((hy k (by omega)).trans (hx k hk))) (fun k _ => fw_B rfl (by rw [ax_i0_0 (by decide)]; rfl))
