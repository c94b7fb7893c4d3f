/-! THE RELATION of the class's cells and the reference's -/
/-- a pass of 44 numbers, as it must be: n carts, the hour h is to come -/
def WF (f : Nat → Int32) (n h : Nat) : Prop := f 0 = nI n ∧ n ≤ 6 ∧ f 1 = nI h ∧ h ≤ 12 ∧ (∀ t, t < 6 → ∃ T : Nat, T ≤ 99 ∧ f (2 + t) = nI T) ∧
  ∀ c, c < n → (∃ k : Nat, 1 ≤ k ∧ k ≤ 5 ∧ f (8 + 6 * c + 0) = nI k) ∧ (∃ a : Nat, a ≤ 11 ∧ f (8 + 6 * c + 1) = nI a) ∧ (∃ H : Nat, H ≤ 20 ∧ f (8 + 6 * c + 2) = nI H) ∧ (∃ p : Nat, p ≤ 11 ∧ f (8 + 6 * c + 3) = nI p) ∧ ((f (8 + 6 * c + 4) = -1000000 ∧ f (8 + 6 * c + 5) = 0) ∨ ∃ w : Nat, w < h ∧ f (8 + 6 * c + 4) = nI w)
theorem WF.c {f g : Nat → Int32} {n h : Nat} (H : WF f n h) (e : ∀ j, j < 44 → g j = f j) : WF g n h := by
  obtain ⟨h1, h2, h3, h4, h5, h6⟩ := H
  refine ⟨(e 0 (by decide)).trans h1, h2, (e 1 (by decide)).trans h3, h4, fun t ht => ?_, fun c hc => ?_⟩
  · rw [e (2 + t) (by omega)]
    exact h5 t ht
  · rw [e (8 + 6 * c + 0) (by omega), e (8 + 6 * c + 1) (by omega), e (8 + 6 * c + 2) (by omega), e (8 + 6 * c + 3) (by omega), e (8 + 6 * c + 4) (by omega), e (8 + 6 * c + 5) (by omega)]
    exact h6 c hc
/-- the class's Pass at p is that of the numbers f -/
def XP (σ : ax_Z) (p : Nat) (f : Nat → Int32) (n : Nat) : Prop := σ p 10 = f 0 ∧ σ p 11 = f 1 ∧ (∀ t, t < 6 → σ (p + 1) t = f (2 + t)) ∧ (∀ c k, c < n → k < 6 → σ (p + 2 + k) c = f (8 + 6 * c + k)) ∧ ∀ c, c < 7 → σ (p + 8) c = 0
theorem XP.fr {σ τ : ax_Z} {p n : Nat} {f : Nat → Int32} (h : XP σ p f n) (e : ∀ a, p ≤ a → a < p + 9 → τ a = σ a) : XP τ p f n := by
  obtain ⟨h1, h2, h3, h4, h5⟩ := h
  refine ⟨by rw [e p (by omega) (by omega)]; exact h1, by rw [e p (by omega) (by omega)]; exact h2, fun t ht => ?_, fun c k hc hk => ?_, fun c hc => ?_⟩
  · rw [e (p + 1) (by omega) (by omega)]
    exact h3 t ht
  · rw [e (p + 2 + k) (by omega) (by omega)]
    exact h4 c k hc hk
  · rw [e (p + 8) (by omega) (by omega)]
    exact h5 c hc
theorem XP.c {σ : ax_Z} {p n : Nat} {f g : Nat → Int32} (h : XP σ p f n) (h6 : n ≤ 6) (e : ∀ j, j < 44 → g j = f j) : XP σ p g n := by
  obtain ⟨h1, h2, h3, h4, h5⟩ := h
  refine ⟨h1.trans (e 0 (by decide)).symm, h2.trans (e 1 (by decide)).symm, fun t ht => (h3 t ht).trans (e _ (by omega)).symm, fun c k hc hk => (h4 c k hc hk).trans (e _ (by omega)).symm, h5⟩
def rN (σ : ax_Z) (n h : Nat) : Prop := WF (σ 81) n h ∧ XP σ 14 (σ 81) n ∧ σ 14 9 = σ 77 7 ∧ (σ 77 7 = 0 ∨ σ 77 7 = 1)
theorem rN.fr {σ τ : ax_Z} {n h : Nat} (H : rN σ n h) (e : ∀ a, 14 ≤ a → a < 23 → τ a = σ a) (e81 : τ 81 = σ 81) (e7 : τ 77 7 = σ 77 7) : rN τ n h := by
  obtain ⟨h1, h2, h3, h4⟩ := H
  refine ⟨by rw [e81]; exact h1, ?_, ?_, ?_⟩
  · rw [e81]
    exact h2.fr e
  · rw [e 14 (by decide) (by decide), e7]
    exact h3
  · rw [e7]
    exact h4
def im (σ : ax_Z) (k : Nat) : Nat → Int32 := fun i => σ 94 (44 * k + i)
def rI (σ : ax_Z) (k : Nat) : Prop := ∃ n h, WF (im σ k) n h ∧ XP σ (57 + 10 * k) (im σ k) n ∧ σ (57 + 10 * k) 9 = σ 93 k ∧ (σ 93 k = 0 ∨ (σ 93 k = 1 ∧ σ 77 7 = 1))
theorem rI.fr {σ τ : ax_Z} {k : Nat} (H : rI σ k) (e : ∀ a, 57 + 10 * k ≤ a → a < 57 + 10 * k + 9 → τ a = σ a) (e93 : τ 93 k = σ 93 k) (e94 : ∀ j, j < 44 → τ 94 (44 * k + j) = σ 94 (44 * k + j)) (e7 : τ 77 7 = σ 77 7 ∨ τ 77 7 = 1) : rI τ k := by
  obtain ⟨n, h, h1, h2, h3, h4⟩ := H
  refine ⟨n, h, h1.c e94, (h2.fr e).c h1.2.1 e94, ?_, ?_⟩
  · rw [e _ (by omega) (by omega), e93]
    exact h3
  · rw [e93]
    rcases h4 with q | q
    · exact Or.inl q
    · rcases e7 with z | z
      · rw [z]
        exact Or.inr q
      · exact Or.inr ⟨q.1, z⟩
/-- the picture behind i acts of m -/
def sn (σ : ax_Z) (m i : Nat) : Nat → Int32 := if i < m then fun j => σ 83 (44 * i + j) else σ 81
/-- g' comes of g by an act that (who, bef) undoes -/
def AR (g g' : Nat → Int32) (who bef : Int32) (n : Nat) : Prop := ∃ h, WF g n h ∧ ((∃ c, c < n ∧ who = nI c ∧ bef = g (8 + 6 * c + 3) ∧ ∀ j, j < 8 + 6 * n → j ≠ 8 + 6 * c + 3 → g' j = g j) ∨
  (who = -1 ∧ h < 12 ∧ g' 1 = nI (h + 1) ∧ (∀ j, j < 8 → j ≠ 1 → g' j = g j) ∧ ∀ c, c < n → (∀ k, k < 4 → g' (8 + 6 * c + k) = g (8 + 6 * c + k)) ∧ ((g' (8 + 6 * c + 4) = nI h ∧ g (8 + 6 * c + 4) = -1000000 ∧ g (8 + 6 * c + 5) = 0) ∨ (¬ g' (8 + 6 * c + 4) = nI h ∧ g' (8 + 6 * c + 4) = g (8 + 6 * c + 4) ∧ g' (8 + 6 * c + 5) = g (8 + 6 * c + 5)))))
def rA (σ : ax_Z) (n m : Nat) : Prop := σ 25 2 = nI m ∧ σ 77 9 = nI m ∧ m ≤ 24 ∧ ∀ i, i < m → AR (sn σ m i) (sn σ m (i + 1)) (σ 26 i) (σ 27 i) n
theorem rA.fr {σ τ : ax_Z} {n m : Nat} (H : rA σ n m) (e25 : τ 25 2 = σ 25 2) (e26 : τ 26 = σ 26) (e27 : τ 27 = σ 27) (e9 : τ 77 9 = σ 77 9) (e83 : τ 83 = σ 83) (e81 : τ 81 = σ 81) : rA τ n m := by
  obtain ⟨h1, h2, h3, h4⟩ := H
  refine ⟨e25.trans h1, e9.trans h2, h3, fun i hi => ?_⟩
  have e : ∀ j, sn τ m j = sn σ m j := fun j => by
    unfold sn
    rw [e83, e81]
  rw [e, e, e26, e27]
  exact h4 i hi
def rRr (σ : ax_Z) (r : Nat) : Prop := ((σ (41 + 2 * r) 1 = 0 ∧ σ 78 r = -1) ∨ (σ (41 + 2 * r) 1 = 1 ∧ σ (41 + 2 * r) 2 = σ 78 r ∧ ∃ l : Nat, l ≤ 2 ∧ σ 78 r = nI l)) ∧ σ (41 + 2 * r) 3 = σ 79 r ∧ (∃ len : Nat, len ≤ 40 ∧ σ 79 r = nI len) ∧ ∀ i, i < 40 → σ (42 + 2 * r) i = σ 80 (40 * r + i)
def rR (σ : ax_Z) : Prop := ∀ r, r < 8 → rRr σ r
theorem rRr.fr {σ τ : ax_Z} {r : Nat} (H : rRr σ r) (e1 : τ (41 + 2 * r) = σ (41 + 2 * r)) (e2 : τ (42 + 2 * r) = σ (42 + 2 * r)) (e78 : τ 78 r = σ 78 r) (e79 : τ 79 r = σ 79 r) (e80 : ∀ i, i < 40 → τ 80 (40 * r + i) = σ 80 (40 * r + i)) : rRr τ r := by
  unfold rRr at H ⊢
  rw [e1, e2, e78, e79]
  refine ⟨H.1, H.2.1, H.2.2.1, fun i hi => ?_⟩
  rw [e80 i hi]
  exact H.2.2.2 i hi
theorem rR.fr {σ τ : ax_Z} (H : rR σ) (e : ∀ a, 41 ≤ a → a < 57 → τ a = σ a) (e78 : τ 78 = σ 78) (e79 : τ 79 = σ 79) (e80 : τ 80 = σ 80) : rR τ :=
  fun r hr => (H r hr).fr (e _ (by omega) (by omega)) (e _ (by omega) (by omega)) (by rw [e78]) (by rw [e79]) (fun i _ => by rw [e80])
def rT (σ : ax_Z) (t : Nat) : Prop := σ 2 1 = nI t ∧ σ 77 11 = nI t ∧ t ≤ 400 ∧ ∀ i, i < t → ∃ v : Nat, v < 256 ∧ σ 84 i = nI v ∧ σ 3 i = (nI v).toInt8.toInt32
theorem rT.fr {σ τ : ax_Z} {t : Nat} (H : rT σ t) (e2 : τ 2 1 = σ 2 1) (e11 : τ 77 11 = σ 77 11) (e84 : τ 84 = σ 84) (e3 : τ 3 = σ 3) : rT τ t := by
  obtain ⟨h1, h2, h3, h4⟩ := H
  refine ⟨e2.trans h1, e11.trans h2, h3, ?_⟩
  rw [e84, e3]
  exact h4
def rF (σ : ax_Z) : Prop := σ 0 7 = σ 77 12 ∧ σ 0 8 = σ 77 1
def rC (σ : ax_Z) : Prop := ∃ t : Nat, t ≤ 16 ∧ σ 39 1 = nI t ∧ σ 77 34 = nI t ∧ ∀ i, i < t → σ 40 i = σ 95 i
theorem rC.fr {σ τ : ax_Z} (H : rC σ) (e39 : τ 39 1 = σ 39 1) (e34 : τ 77 34 = σ 77 34) (e40 : τ 40 = σ 40) (e95 : τ 95 = σ 95) : rC τ := by
  obtain ⟨t, h1, h2, h3, h4⟩ := H
  refine ⟨t, h1, e39.trans h2, e34.trans h3, ?_⟩
  rw [e40, e95]
  exact h4
def rD (σ : ax_Z) : Prop := ∀ c, c < 7 → σ 12 c = 0
theorem rD.fr {σ τ : ax_Z} (H : rD σ) (e : τ 12 = σ 12) : rD τ := by
  unfold rD
  rw [e]
  exact H
def RR (σ : ax_Z) : Prop := (∃ n h m, rN σ n h ∧ rA σ n m) ∧ (rI σ 0 ∧ rI σ 1) ∧ rR σ ∧ (∃ t, rT σ t) ∧ rF σ ∧ rC σ ∧ rD σ
/-- what R doesn't speak of may change -/
def sm (σ τ : ax_Z) : Prop := (∀ a, a < 29 ∨ (39 ≤ a ∧ a < 77) ∨ (78 ≤ a ∧ a < 85) ∨ 93 ≤ a → τ a = σ a) ∧ ∀ j, j ≠ 0 → j ≠ 20 → j ≠ 29 → j ≠ 30 → τ 77 j = σ 77 j
theorem sm.rf {σ : ax_Z} : sm σ σ := ⟨fun _ _ => rfl, fun _ _ _ _ _ => rfl⟩
theorem sm.tr {σ τ υ : ax_Z} (h1 : sm σ τ) (h2 : sm τ υ) : sm σ υ := ⟨fun a h => (h2.1 a h).trans (h1.1 a h), fun j a b c d => (h2.2 j a b c d).trans (h1.2 j a b c d)⟩
theorem sm.u0 {σ : ax_Z} : sm σ (ax_up σ 77 0 0) := ⟨fun a h => up_ne (by omega), fun j h _ _ _ => up_o h⟩
theorem sm.x {σ τ : ax_Z} (h : ax_fr 29 39 σ τ) : sm σ τ := ⟨fun a ha => h a (by omega), fun j _ _ _ _ => by rw [h 77 (by decide)]⟩
theorem RR.sm {σ τ : ax_Z} (H : RR σ) (s : sm σ τ) : RR τ := by
  obtain ⟨⟨n, h, m, h1, h2⟩, ⟨h3, h4⟩, h5, ⟨t, h6⟩, h7, h8, h9⟩ := H
  obtain ⟨s1, s2⟩ := s
  refine ⟨⟨n, h, m, h1.fr (fun a a1 a2 => s1 a (by omega)) (s1 81 (by decide)) (s2 7 (by decide) (by decide) (by decide) (by decide)), h2.fr (by rw [s1 25 (by decide)]) (s1 26 (by decide)) (s1 27 (by decide)) (s2 9 (by decide) (by decide) (by decide) (by decide)) (s1 83 (by decide)) (s1 81 (by decide))⟩, ⟨h3.fr (fun a a1 a2 => s1 a (by omega)) (by rw [s1 93 (by decide)]) (fun j _ => by rw [s1 94 (by decide)]) (Or.inl (s2 7 (by decide) (by decide) (by decide) (by decide))), h4.fr (fun a a1 a2 => s1 a (by omega)) (by rw [s1 93 (by decide)]) (fun j _ => by rw [s1 94 (by decide)]) (Or.inl (s2 7 (by decide) (by decide) (by decide) (by decide)))⟩,
    h5.fr (fun a a1 a2 => s1 a (by omega)) (s1 78 (by decide)) (s1 79 (by decide)) (s1 80 (by decide)), ⟨t, h6.fr (by rw [s1 2 (by decide)]) (s2 11 (by decide) (by decide) (by decide) (by decide)) (s1 84 (by decide)) (s1 3 (by decide))⟩, ?_, h8.fr (by rw [s1 39 (by decide)]) (s2 34 (by decide) (by decide) (by decide) (by decide)) (s1 40 (by decide)) (s1 95 (by decide)), h9.fr (s1 12 (by decide))⟩
  unfold rF
  rw [s1 0 (by decide), s2 12 (by decide) (by decide) (by decide) (by decide), s2 1 (by decide) (by decide) (by decide) (by decide)]
  exact h7
/-- the status, on both sides -/
theorem RR.st {σ τ : ax_Z} {v : Int32} (H : RR σ) (e : ∀ a, a ≠ 0 → a ≠ 77 → τ a = σ a) (e0 : ∀ j, j ≠ 8 → τ 0 j = σ 0 j) (e7 : ∀ j, j ≠ 1 → j ≠ 0 → τ 77 j = σ 77 j) (x : τ 0 8 = v) (y : τ 77 1 = v) : RR τ := by
  obtain ⟨⟨n, h, m, h1, h2⟩, ⟨h3, h4⟩, h5, ⟨t, h6⟩, h7, h8, h9⟩ := H
  refine ⟨⟨n, h, m, h1.fr (fun a a1 a2 => e a (by omega) (by omega)) (e 81 (by decide) (by decide)) (e7 7 (by decide) (by decide)), h2.fr (by rw [e 25 (by decide) (by decide)]) (e 26 (by decide) (by decide)) (e 27 (by decide) (by decide)) (e7 9 (by decide) (by decide)) (e 83 (by decide) (by decide)) (e 81 (by decide) (by decide))⟩, ⟨h3.fr (fun a a1 a2 => e a (by omega) (by omega)) (by rw [e 93 (by decide) (by decide)]) (fun j _ => by rw [e 94 (by decide) (by decide)]) (Or.inl (e7 7 (by decide) (by decide))), h4.fr (fun a a1 a2 => e a (by omega) (by omega)) (by rw [e 93 (by decide) (by decide)]) (fun j _ => by rw [e 94 (by decide) (by decide)]) (Or.inl (e7 7 (by decide) (by decide)))⟩,
    h5.fr (fun a a1 a2 => e a (by omega) (by omega)) (e 78 (by decide) (by decide)) (e 79 (by decide) (by decide)) (e 80 (by decide) (by decide)), ⟨t, h6.fr (by rw [e 2 (by decide) (by decide)]) (e7 11 (by decide) (by decide)) (e 84 (by decide) (by decide)) (e 3 (by decide) (by decide))⟩, ?_, h8.fr (by rw [e 39 (by decide) (by decide)]) (e7 34 (by decide) (by decide)) (e 40 (by decide) (by decide)) (e 95 (by decide) (by decide)), h9.fr (e 12 (by decide) (by decide))⟩
  unfold rF
  rw [e0 7 (by decide), e7 12 (by decide) (by decide), x, y]
  exact ⟨h7.1, rfl⟩
/-- one call on both sides: the same answer, and the relation holds again -/
def OP (iX iM : ax_I) (hX hM : Nat) (as : List Value) (σ : ax_Z) : Prop := ∀ (Y : ax_Y) (ad : Nat → Nat) (l : Launch), ax_F Y → ∃ (v : Int32) (σ1 σ2 : ax_Z), ax_m Y ad l iX hX σ (.ref (ad 0) :: as) (some (.int v)) σ1 ∧ ax_m Y ad l iM hM σ1 (.ref (ad 77) :: as) (some (.int v)) σ2 ∧ RR σ2
theorem ax_m.ans {Y : ax_Y} {ad : Nat → Nat} {l : Launch} {i : ax_I} {h : Nat} {σ σ' τ : ax_Z} {as : List Value} {v w : Int32} (H : ax_m Y ad l i h σ as (some (.int v)) σ') (e : v = w) (e2 : σ' = τ) : ax_m Y ad l i h σ as (some (.int w)) τ := by
  subst e; subst e2
  exact H
