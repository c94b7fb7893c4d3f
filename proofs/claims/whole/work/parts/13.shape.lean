/-- a cell's shape: an array (type, length), an object (class, for each field the cell that it holds for ever, or a number) -/
abbrev ax_Sh : Type := (Nat × Nat) ⊕ (Nat × List (Option Nat))
def ax_shL : List ax_Sh := [.inr (6, [some 1, some 2, some 14, some 24, some 25, some 28, some 39, none, none]),
  .inl (3, 8),
  .inr (4, [some 3, none, some 4, none, none, none, none, none]),
  .inl (1, 400),
  .inr (3, [some 5, some 6, some 7, some 8, some 9, some 10, some 11, some 12, some 13, none, none, none]),
  .inl (0, 6),
  .inl (0, 7),
  .inl (0, 7),
  .inl (0, 7),
  .inl (0, 7),
  .inl (0, 7),
  .inl (0, 7),
  .inl (0, 7),
  .inl (0, 12),
  .inr (3, [some 15, some 16, some 17, some 18, some 19, some 20, some 21, some 22, some 23, none, none, none]),
  .inl (0, 6),
  .inl (0, 7),
  .inl (0, 7),
  .inl (0, 7),
  .inl (0, 7),
  .inl (0, 7),
  .inl (0, 7),
  .inl (0, 7),
  .inl (0, 12),
  .inl (4, 2),
  .inr (0, [some 26, some 27, none]),
  .inl (0, 24),
  .inl (0, 24),
  .inr (2, [some 29]),
  .inr (3, [some 30, some 31, some 32, some 33, some 34, some 35, some 36, some 37, some 38, none, none, none]),
  .inl (0, 6),
  .inl (0, 7),
  .inl (0, 7),
  .inl (0, 7),
  .inl (0, 7),
  .inl (0, 7),
  .inl (0, 7),
  .inl (0, 7),
  .inl (0, 12),
  .inr (1, [some 40, none]),
  .inl (0, 16),
  .inr (5, [some 42, none, none, none]),
  .inl (0, 40),
  .inr (5, [some 44, none, none, none]),
  .inl (0, 40),
  .inr (5, [some 46, none, none, none]),
  .inl (0, 40),
  .inr (5, [some 48, none, none, none]),
  .inl (0, 40),
  .inr (5, [some 50, none, none, none]),
  .inl (0, 40),
  .inr (5, [some 52, none, none, none]),
  .inl (0, 40),
  .inr (5, [some 54, none, none, none]),
  .inl (0, 40),
  .inr (5, [some 56, none, none, none]),
  .inl (0, 40),
  .inr (3, [some 58, some 59, some 60, some 61, some 62, some 63, some 64, some 65, some 66, none, none, none]),
  .inl (0, 6),
  .inl (0, 7),
  .inl (0, 7),
  .inl (0, 7),
  .inl (0, 7),
  .inl (0, 7),
  .inl (0, 7),
  .inl (0, 7),
  .inl (0, 12),
  .inr (3, [some 68, some 69, some 70, some 71, some 72, some 73, some 74, some 75, some 76, none, none, none]),
  .inl (0, 6),
  .inl (0, 7),
  .inl (0, 7),
  .inl (0, 7),
  .inl (0, 7),
  .inl (0, 7),
  .inl (0, 7),
  .inl (0, 7),
  .inl (0, 12),
  .inr (7, [none, none, some 78, some 79, some 80, some 81, some 82, none, some 83, none, some 84, none, none, none, none, none, none, none, none, none, none, some 85, some 86, some 87, some 88, some 89, some 90, some 91, some 92, none, none, some 93, some 94, some 95, none]),
  .inl (0, 8),
  .inl (0, 8),
  .inl (0, 320),
  .inl (0, 44),
  .inl (0, 44),
  .inl (0, 1056),
  .inl (0, 400),
  .inl (0, 7),
  .inl (0, 7),
  .inl (0, 7),
  .inl (0, 7),
  .inl (0, 7),
  .inl (0, 7),
  .inl (0, 12),
  .inl (0, 7),
  .inl (2, 2),
  .inl (0, 88),
  .inl (0, 16)]
def ax_sh (k : Nat) : ax_Sh := ax_shL.getD k (.inl (9, 0))
def ax_fs (ad : Nat → Nat) (fl : List (Option Nat)) (f : Nat → Int32) : List Value := fl.zipIdx.map (fun q => match q.1 with
  | some o => .ref (ad o)
  | none => .int (f q.2))
def ax_cel (cA : Nat → ClassId) (ad : Nat → Nat) (sh : ax_Sh) (f : Nat → Int32) : va_E := match sh with
  | .inl (3, n) => .inl (cA 3, n, .inr (.inr (.inr (.inr (fun r => some (ad (41 + 2 * r)))))))
  | .inl (4, n) => .inl (cA 4, n, .inr (.inr (.inr (.inr (fun r => some (ad (57 + 10 * r)))))))
  | .inl (t, n) => .inl (cA t, n, .inl f)
  | .inr (ci, fl) => .inr (ci, ax_fs ad fl f)
abbrev ax_Z : Type := Nat → Nat → Int32
def ax_g (Y : ax_Y) (ad : Nat → Nat) (σ : ax_Z) (k : Nat) : va_E := ax_cel Y.2.1 ad (ax_sh k) (σ k)
def ax_up (σ : ax_Z) (k j : Nat) (v : Int32) : ax_Z := fun a b => if a = k ∧ b = j then v else σ a b
theorem ax_sh_lt_o {k : Nat} {q : Nat × List (Option Nat)} (h : ax_sh k = .inr q) : k < 96 := by
  by_cases hk : k < 96
  · exact hk
  · unfold ax_sh at h
    rw [List.getD_eq_getElem?_getD, List.getElem?_eq_none (by show 96 ≤ k; omega)] at h
    cases h
theorem ax_sh_lt_a {k t n : Nat} (h : ax_sh k = .inl (t, n)) (ht : t < 9) : k < 96 := by
  by_cases hk : k < 96
  · exact hk
  · unfold ax_sh at h
    rw [List.getD_eq_getElem?_getD, List.getElem?_eq_none (by show 96 ≤ k; omega)] at h
    cases h
    omega
theorem ax_fs_get {ad : Nat → Nat} {fl : List (Option Nat)} {f : Nat → Int32} {j : Nat} : (ax_fs ad fl f)[j]? = (fl[j]?).map (fun z => match z with
    | some o => Value.ref (ad o)
    | none => .int (f j)) := by
  simp only [ax_fs, List.getElem?_map, List.getElem?_zipIdx, Option.map_map]
  cases fl[j]? with
  | none => rfl
  | some z => simp
theorem ax_fs_set {ad : Nat → Nat} {fl : List (Option Nat)} {f : Nat → Int32} {j : Nat} {v : Int32} (hj : fl[j]? = some none) : (ax_fs ad fl f).set j (.int v) = ax_fs ad fl (upd f j v) := by
  apply List.ext_getElem?
  intro m
  by_cases e : m = j
  · subst e
    rw [List.getElem?_set_self (by
      have := (List.getElem?_eq_some_iff.mp hj).1
      simpa [ax_fs] using this), ax_fs_get, hj]
    simp [upd]
  · rw [List.getElem?_set_ne (Ne.symm e), ax_fs_get, ax_fs_get]
    cases fl[m]? with
    | none => rfl
    | some z => cases z <;> simp [upd, e]
theorem ax_row {σ : ax_Z} {k j : Nat} {v : Int32} : (ax_up σ k j v) k = upd (σ k) j v := by
  funext b
  simp [ax_up, upd]
theorem ax_row_ne {σ : ax_Z} {k j a : Nat} {v : Int32} (h : a ≠ k) : (ax_up σ k j v) a = σ a := by
  funext b
  simp [ax_up, h]
theorem ax_g_up {Y : ax_Y} {ad : Nat → Nat} {σ : ax_Z} {k j : Nat} {v : Int32} {e : va_E} (he : ax_cel Y.2.1 ad (ax_sh k) (upd (σ k) j v) = e) : va_up (ax_g Y ad σ) k e = ax_g Y ad (ax_up σ k j v) := by
  funext a
  by_cases h : a = k
  · subst h
    simp only [va_up, if_true, ax_g, ax_row]
    exact he.symm
  · simp only [va_up, if_neg h, ax_g, ax_row_ne h]
theorem ax_g_obj {Y : ax_Y} {ad : Nat → Nat} {σ : ax_Z} {k ci : Nat} {fl : List (Option Nat)} (hs : ax_sh k = .inr (ci, fl)) : ax_g Y ad σ k = .inr (ci, ax_fs ad fl (σ k)) := by
  unfold ax_g
  rw [hs]
  rfl
theorem ax_cel_arr {cA : Nat → ClassId} {ad : Nat → Nat} {f : Nat → Int32} {t n : Nat} (ht : t < 3) : ax_cel cA ad (.inl (t, n)) f = .inl (cA t, n, .inl f) := by
  match t, ht with
  | 0, _ => rfl
  | 1, _ => rfl
  | 2, _ => rfl
theorem ax_g_arr {Y : ax_Y} {ad : Nat → Nat} {σ : ax_Z} {k t n : Nat} (hs : ax_sh k = .inl (t, n)) (ht : t < 3) : ax_g Y ad σ k = .inl (Y.2.1 t, n, .inl (σ k)) := by
  unfold ax_g
  rw [hs]
  exact ax_cel_arr ht
/-- the walk over the world of numbers -/
abbrev ax_S (x : ax_T) (Y : ax_Y) (ad : Nat → Nat) (kc ks : Nat) (Q : State → Prop) (σ : ax_Z) (pc : Nat) (L : List (Option Value)) (st : List Value) : Prop := ax_V x Y ad kc ks Q 96 (ax_g Y ad σ) pc L st
/-- a contract over the world of numbers -/
def ax_m (Y : ax_Y) (ad : Nat → Nat) (l : Launch) (j : ax_I) (h : Nat) (σ : ax_Z) (av : List Value) (r : Option Value) (σ' : ax_Z) : Prop := ax_M Y ad l j h 0 0 96 (ax_g Y ad σ) av r (ax_g Y ad σ')
section AXH
variable {x : ax_T} {Y : ax_Y} {ad : Nat → Nat} {i : ax_I} {h mc ms kc ks pc : Nat} {Q : State → Prop} {σ σ' : ax_Z} {L : List (Option Value)} {st rest av : List Value} {j : ax_I} {h' idx n : Nat} {r : Option Value}
theorem ax_getI (C : ax_C x Y i h mc ms) {k f ci : Nat} {fl : List (Option Nat)} {fin : Bool} {ty : FieldType} (lk : ax_FL i.1.cls idx ci f fin ty) (hd : decode i.2.1 pc = .ok (.getfield idx, 3)) (hs : ax_sh k = .inr (ci, fl)) (hf : fl[f]? = some none) (kk : ax_S x Y ad kc ks Q σ (pc + 3) L (.int (σ k f) :: st)) : ax_S x Y ad kc ks Q σ pc L (.ref (ad k) :: st) := by
  obtain ⟨q, ty0, ⟨c1, c2, c3, c4⟩, l1, l2, l3, l4⟩ := lk
  intro H ls locs hP hD hS hL
  refine va_get (Ts := ax_tb) C.exec C.bytes C.hts c2 C.own C.hK hP k (by rw [ax_hw_get (ax_sh_lt_o hs), ax_g_obj hs]) c1 f l1 (C.hts _ l2) (fun _ z => z) ?_ hd (kk H ls locs hP hD hS hL)
  rw [ax_fs_get, hf]
  rfl
theorem ax_getR (C : ax_C x Y i h mc ms) {k f ci o : Nat} {fl : List (Option Nat)} {fin : Bool} {ty : FieldType} (lk : ax_FL i.1.cls idx ci f fin ty) (hd : decode i.2.1 pc = .ok (.getfield idx, 3)) (hs : ax_sh k = .inr (ci, fl)) (hf : fl[f]? = some (some o)) (kk : ax_S x Y ad kc ks Q σ (pc + 3) L (.ref (ad o) :: st)) : ax_S x Y ad kc ks Q σ pc L (.ref (ad k) :: st) := by
  obtain ⟨q, ty0, ⟨c1, c2, c3, c4⟩, l1, l2, l3, l4⟩ := lk
  intro H ls locs hP hD hS hL
  refine va_get (Ts := ax_tb) C.exec C.bytes C.hts c2 C.own C.hK hP k (by rw [ax_hw_get (ax_sh_lt_o hs), ax_g_obj hs]) c1 f l1 (C.hts _ l2) (fun _ z => z) ?_ hd (kk H ls locs hP hD hS hL)
  rw [ax_fs_get, hf]
  rfl
theorem ax_putI (C : ax_C x Y i h mc ms) {k f ci : Nat} {fl : List (Option Nat)} {ty : FieldType} {v : Int32} (lk : ax_FL i.1.cls idx ci f false ty) (hd : decode i.2.1 pc = .ok (.putfield idx, 3)) (hs : ax_sh k = .inr (ci, fl)) (hf : fl[f]? = some none) (hn : narrow ty (.int v) = .int v) (hfit : fits ty (.int v) = true) (kk : ax_S x Y ad kc ks Q (ax_up σ k f v) (pc + 3) L st) : ax_S x Y ad kc ks Q σ pc L (.int v :: .ref (ad k) :: st) := by
  obtain ⟨q, ty0, ⟨c1, c2, c3, c4⟩, l1, l2, l3, l4⟩ := lk
  intro H ls locs hP hD hS hL
  have hl : f < fl.length := (List.getElem?_eq_some_iff.mp hf).1
  refine va_put (Ts := ax_tb) C.exec C.bytes C.hts c2 ty0 c3 c4 C.own C.hK hP hD hS k (by rw [ax_hw_get (ax_sh_lt_o hs), ax_g_obj hs]) c1 f l1 (C.hts _ l2) (fun _ z => z) l3 (c3 f l1) (by rw [l4]; exact hn) (by rw [l4]; exact hfit) (by simpa [ax_fs] using hl) hd (fun H1 locs1 hP1 hD1 hS1 => ?_)
  have e : va_up (ax_g Y ad σ) k (.inr (ci, (ax_fs ad fl (σ k)).set f (.int v))) = ax_g Y ad (ax_up σ k f v) := ax_g_up (by rw [hs, ax_fs_set hf]; rfl)
  rw [ax_hw_set, e] at hP1 hD1
  exact kk H1 ls locs1 hP1 hD1 hS1 hL
theorem ax_ial (C : ax_C x Y i h mc ms) {k m : Nat} {a : Int32} (hd : decode i.2.1 pc = .ok (.iaload, 1)) (hs : ax_sh k = .inl (0, m)) (hin : vp_in a m) (kk : ax_S x Y ad kc ks Q σ (pc + 1) L (.int (σ k a.toNatClampNeg) :: st)) : ax_S x Y ad kc ks Q σ pc L (.int a :: .ref (ad k) :: st) :=
  fun H ls locs hP hD hS hL => va_iald C.exec C.bytes C.hK hP k 0 (by rw [ax_hw_get (ax_sh_lt_a hs (by decide)), ax_g_arr hs (by decide)]) rfl hin hd (kk H ls locs hP hD hS hL)
theorem ax_ian (C : ax_C x Y i h mc ms) {k m c : Nat} (hd : decode i.2.1 pc = .ok (.iaload, 1)) (hs : ax_sh k = .inl (0, m)) (hc : c < m) (hm : m < 2000) (kk : ax_S x Y ad kc ks Q σ (pc + 1) L (.int (σ k c) :: st)) : ax_S x Y ad kc ks Q σ pc L (.int (nI c) :: .ref (ad k) :: st) :=
  ax_ial C hd hs (vp_in_nI hc (by omega)) (by rw [nI_clamp (by omega)]; exact kk)
theorem ax_ias (C : ax_C x Y i h mc ms) {k m : Nat} {a v : Int32} (hd : decode i.2.1 pc = .ok (.iastore, 1)) (hs : ax_sh k = .inl (0, m)) (hin : vp_in a m) (kk : ax_S x Y ad kc ks Q (ax_up σ k a.toNatClampNeg v) (pc + 1) L st) : ax_S x Y ad kc ks Q σ pc L (.int v :: .int a :: .ref (ad k) :: st) := by
  intro H ls locs hP hD hS hL
  refine va_iast C.exec C.bytes C.hK hP hD hS k 0 (by rw [ax_hw_get (ax_sh_lt_a hs (by decide)), ax_g_arr hs (by decide)]) rfl hin hd (fun H1 locs1 hP1 hD1 hS1 => ?_)
  have e : va_up (ax_g Y ad σ) k (.inl (Y.2.1 0, m, .inl (upd (σ k) a.toNatClampNeg v))) = ax_g Y ad (ax_up σ k a.toNatClampNeg v) := ax_g_up (by rw [hs]; exact ax_cel_arr (by decide))
  rw [ax_hw_set, e] at hP1 hD1
  exact kk H1 ls locs1 hP1 hD1 hS1 hL
theorem ax_isn (C : ax_C x Y i h mc ms) {k m c : Nat} {v : Int32} (hd : decode i.2.1 pc = .ok (.iastore, 1)) (hs : ax_sh k = .inl (0, m)) (hc : c < m) (hm : m < 2000) (kk : ax_S x Y ad kc ks Q (ax_up σ k c v) (pc + 1) L st) : ax_S x Y ad kc ks Q σ pc L (.int v :: .int (nI c) :: .ref (ad k) :: st) :=
  ax_ias C hd hs (vp_in_nI hc (by omega)) (by rw [nI_clamp (by omega)]; exact kk)
theorem ax_bal (C : ax_C x Y i h mc ms) {k m c : Nat} (hd : decode i.2.1 pc = .ok (.baload, 1)) (hs : ax_sh k = .inl (1, m)) (hc : c < m) (hm : m < 2000) (kk : ax_S x Y ad kc ks Q σ (pc + 1) L (.int (σ k c) :: st)) : ax_S x Y ad kc ks Q σ pc L (.int (nI c) :: .ref (ad k) :: st) :=
  fun H ls locs hP hD hS hL => va_bald C.exec C.bytes C.hK hP k 1 (by rw [ax_hw_get (ax_sh_lt_a hs (by decide)), ax_g_arr hs (by decide)]) rfl (vp_in_nI hc (by omega)) hd (by rw [nI_clamp (by omega)]; exact kk H ls locs hP hD hS hL)
theorem ax_bas (C : ax_C x Y i h mc ms) {k m c : Nat} {v : Int32} (hd : decode i.2.1 pc = .ok (.bastore, 1)) (hs : ax_sh k = .inl (1, m)) (hc : c < m) (hm : m < 2000) (kk : ax_S x Y ad kc ks Q (ax_up σ k c (vp_nar .byte v)) (pc + 1) L st) : ax_S x Y ad kc ks Q σ pc L (.int v :: .int (nI c) :: .ref (ad k) :: st) := by
  intro H ls locs hP hD hS hL
  refine va_bast C.exec C.bytes C.hK hP hD hS k 1 (by rw [ax_hw_get (ax_sh_lt_a hs (by decide)), ax_g_arr hs (by decide)]) rfl (vp_in_nI hc (by omega)) hd (fun H1 locs1 hP1 hD1 hS1 => ?_)
  rw [nI_clamp (by omega)] at hP1 hD1
  have e : va_up (ax_g Y ad σ) k (.inl (Y.2.1 1, m, .inl (upd (σ k) c (vp_nar .byte v)))) = ax_g Y ad (ax_up σ k c (vp_nar .byte v)) := ax_g_up (by rw [hs]; exact ax_cel_arr (by decide))
  rw [ax_hw_set, e] at hP1 hD1
  exact kk H1 ls locs1 hP1 hD1 hS1 hL
theorem ax_zal (C : ax_C x Y i h mc ms) {k m c : Nat} (hd : decode i.2.1 pc = .ok (.baload, 1)) (hs : ax_sh k = .inl (2, m)) (hc : c < m) (hm : m < 2000) (kk : ax_S x Y ad kc ks Q σ (pc + 1) L (.int (σ k c) :: st)) : ax_S x Y ad kc ks Q σ pc L (.int (nI c) :: .ref (ad k) :: st) :=
  fun H ls locs hP hD hS hL => va_zald C.exec C.bytes C.hK hP k 2 (by rw [ax_hw_get (ax_sh_lt_a hs (by decide)), ax_g_arr hs (by decide)]) rfl (vp_in_nI hc (by omega)) hd (by rw [nI_clamp (by omega)]; exact kk H ls locs hP hD hS hL)
theorem ax_zas (C : ax_C x Y i h mc ms) {k m c : Nat} {v : Int32} (hd : decode i.2.1 pc = .ok (.bastore, 1)) (hs : ax_sh k = .inl (2, m)) (hc : c < m) (hm : m < 2000) (kk : ax_S x Y ad kc ks Q (ax_up σ k c (vp_nar .boolean v)) (pc + 1) L st) : ax_S x Y ad kc ks Q σ pc L (.int v :: .int (nI c) :: .ref (ad k) :: st) := by
  intro H ls locs hP hD hS hL
  refine va_zast C.exec C.bytes C.hK hP hD hS k 2 (by rw [ax_hw_get (ax_sh_lt_a hs (by decide)), ax_g_arr hs (by decide)]) rfl (vp_in_nI hc (by omega)) hd (fun H1 locs1 hP1 hD1 hS1 => ?_)
  rw [nI_clamp (by omega)] at hP1 hD1
  have e : va_up (ax_g Y ad σ) k (.inl (Y.2.1 2, m, .inl (upd (σ k) c (vp_nar .boolean v)))) = ax_g Y ad (ax_up σ k c (vp_nar .boolean v)) := ax_g_up (by rw [hs]; exact ax_cel_arr (by decide))
  rw [ax_hw_set, e] at hP1 hD1
  exact kk H1 ls locs1 hP1 hD1 hS1 hL
theorem ax_rows (C : ax_C x Y i h mc ms) {c : Nat} (hd : decode i.2.1 pc = .ok (.aaload, 1)) (hc : c < 8) (kk : ax_S x Y ad kc ks Q σ (pc + 1) L (.ref (ad (41 + 2 * c)) :: st)) : ax_S x Y ad kc ks Q σ pc L (.int (nI c) :: .ref (ad 1) :: st) :=
  fun H ls locs hP hD hS hL => va_aldq (C := "FirstCart$Row") (n := 8) (f := fun r => some (ad (41 + 2 * r))) (cA := Y.2.1 3) C.exec C.bytes C.hK hP 1 3 (by rw [ax_hw_get (by decide)]; rfl) rfl (vp_in_nI hc (by omega)) hd (by rw [nI_clamp (by omega)]; exact kk H ls locs hP hD hS hL)
theorem ax_imgs (C : ax_C x Y i h mc ms) {c : Nat} (hd : decode i.2.1 pc = .ok (.aaload, 1)) (hc : c < 2) (kk : ax_S x Y ad kc ks Q σ (pc + 1) L (.ref (ad (57 + 10 * c)) :: st)) : ax_S x Y ad kc ks Q σ pc L (.int (nI c) :: .ref (ad 24) :: st) :=
  fun H ls locs hP hD hS hL => va_aldq (C := "FirstCart$Pass") (n := 2) (f := fun r => some (ad (57 + 10 * r))) (cA := Y.2.1 4) C.exec C.bytes C.hK hP 24 4 (by rw [ax_hw_get (by decide)]; rfl) rfl (vp_in_nI hc (by omega)) hd (by rw [nI_clamp (by omega)]; exact kk H ls locs hP hD hS hL)
theorem ax_alen (C : ax_C x Y i h mc ms) {k m : Nat} (hd : decode i.2.1 pc = .ok (.arraylength, 1)) (hs : ax_sh k = .inl (0, m)) (kk : ax_S x Y ad kc ks Q σ (pc + 1) L (.int (nI m) :: st)) : ax_S x Y ad kc ks Q σ pc L (.ref (ad k) :: st) :=
  fun H ls locs hP hD hS hL => va_alen (x := (m, .inl (σ k))) (v := nI m) C.exec C.bytes C.hK hP k 0 (by rw [ax_hw_get (ax_sh_lt_a hs (by decide)), ax_g_arr hs (by decide)]) rfl rfl hd (kk H ls locs hP hD hS hL)
/-! calls over the world of numbers -/
theorem ax_callS (C : ax_C x Y i h mc ms) (hM : ax_m Y ad x.1.2.1 j h' σ av r σ') (cal : ax_calS j n) (lk : Cond.methodLink i.1.cls idx j.1 ∈ ax_tb) (hd : decode i.2.1 pc = .ok (.invokestatic idx, 3)) (hh : h' + 1 ≤ h) (hst : st = av.reverse ++ rest) (hn : av.length = n) (hw : (rest.map fun v => v.category).sum ≤ 8) (hnL : L.length = i.2.2.1) (hc : kc ≤ mc ∧ ks ≤ ms)
    (kk : ax_S x Y ad kc ks Q σ' (pc + 3) L (r.toList ++ rest)) : ax_S x Y ad kc ks Q σ pc L st := ax_callSg C hM cal lk hh hst hn hw hnL hd hc kk
theorem ax_callN (C : ax_C x Y i h mc ms) {host : String} (hM : ax_m Y ad x.1.2.1 j h' σ av r σ') (cal : ax_calS j n) (lk : Cond.methodLinkNest i.1.cls idx j.1 host ∈ lw_tbl) (hd : decode i.2.1 pc = .ok (.invokestatic idx, 3)) (hh : h' + 1 ≤ h) (hst : st = av.reverse ++ rest) (hn : av.length = n) (hw : (rest.map fun v => v.category).sum ≤ 8) (hnL : L.length = i.2.2.1) (hc : kc ≤ mc ∧ ks ≤ ms)
    (kk : ax_S x Y ad kc ks Q σ' (pc + 3) L (r.toList ++ rest)) : ax_S x Y ad kc ks Q σ pc L st := ax_callNg C hM cal lk hh hst hn hw hnL hd hc kk
theorem ax_callV (C : ax_C x Y i h mc ms) {k ci : Nat} {fl : List (Option Nat)} {q : vw_C} {avs : List Value} (hM : ax_m Y ad x.1.2.1 j h' σ (.ref (ad k) :: avs) r σ') (cal : ax_calV j n) (lk : Cond.methodLink i.1.cls idx j.1 ∈ ax_tb) (hd : decode i.2.1 pc = .ok (.invokevirtual idx, 3)) (hh : h' + 1 ≤ h) (hst : st = avs.reverse ++ .ref (ad k) :: rest) (hs : ax_sh k = .inr (ci, fl)) (hq : vwCl[ci]? = some q) (hqc : q.1 = j.1.cls) (hn : avs.length = n) (hw : (rest.map fun v => v.category).sum ≤ 8) (hnL : L.length = i.2.2.1) (hc : kc ≤ mc ∧ ks ≤ ms)
    (kk : ax_S x Y ad kc ks Q σ' (pc + 3) L (r.toList ++ rest)) : ax_S x Y ad kc ks Q σ pc L st := ax_callVg C rfl (ax_sh_lt_o hs) (ax_g_obj hs) hq hqc hM cal lk hh hst hn hw hnL hd hc kk
theorem ax_m.of {l : Launch} (F : ax_F Y) (cal : ax_cal j n) (L0 : List (Option Value)) (hL0 : ax_Lav j.2.2.1 av = L0) (hlen : (lg_sl av).length ≤ j.2.2.1)
    (body : ∀ x : ax_T, ax_C x Y j h 0 0 → ax_S x Y ad 0 0 (ax_Q x Y ad r 96 (ax_g Y ad σ') 0 0) σ 0 L0 []) : ax_m Y ad l j h σ av r σ' := ax_M.of F cal L0 hL0 hlen body
theorem ax_ir (C : ax_C x Y i h 0 0) {v w : Int32} (hr : i.2.2.2 = some .int) (hd : decode i.2.1 pc = .ok (.ireturn, 1)) (e1 : w = v) (e2 : σ' = σ) : ax_S x Y ad 0 0 (ax_Q x Y ad (some (.int w)) 96 (ax_g Y ad σ') 0 0) σ pc L [.int v] := ax_iret C hr hd (by rw [e1]) (by rw [e2]) rfl rfl
theorem ax_zr (C : ax_C x Y i h 0 0) {v w : Int32} {ty : FieldType} (hr : i.2.2.2 = some ty) (hn : narrow ty (.int v) = .int v) (hd : decode i.2.1 pc = .ok (.ireturn, 1)) (e1 : w = v) (e2 : σ' = σ) : ax_S x Y ad 0 0 (ax_Q x Y ad (some (.int w)) 96 (ax_g Y ad σ') 0 0) σ pc L [.int v] := ax_zret C hr hn hd (by rw [e1]) (by rw [e2]) rfl rfl
theorem ax_lr (C : ax_C x Y i h 0 0) {v w : Int64} (hr : i.2.2.2 = some .long) (hd : decode i.2.1 pc = .ok (.lreturn, 1)) (e1 : w = v) (e2 : σ' = σ) : ax_S x Y ad 0 0 (ax_Q x Y ad (some (.long w)) 96 (ax_g Y ad σ') 0 0) σ pc L [.long v] := ax_lret C hr hd (by rw [e1]) (by rw [e2]) rfl rfl
theorem ax_vr (C : ax_C x Y i h 0 0) (hr : i.2.2.2 = none) (hd : decode i.2.1 pc = .ok (.return_, 1)) (e2 : σ' = σ) : ax_S x Y ad 0 0 (ax_Q x Y ad none 96 (ax_g Y ad σ') 0 0) σ pc L [] := ax_vret C hr hd rfl (by rw [e2]) rfl rfl
theorem ax_ar (C : ax_C x Y i h 0 0) {v : Nat} {n0 : String} (hr : i.2.2.2 = some (.object n0)) (hd : decode i.2.1 pc = .ok (.areturn, 1)) (e2 : σ' = σ) : ax_S x Y ad 0 0 (ax_Q x Y ad (some (.ref v)) 96 (ax_g Y ad σ') 0 0) σ pc L [.ref v] := by
  subst e2
  exact fun H ls locs hP hD hS hL => W.aret C.exec C.bytes (C.ret.trans hr) (Or.inl ⟨_, rfl⟩) (Or.inr ⟨_, rfl⟩) (fun t ht hW => ⟨rfl, by rw [ht]; exact hP, by rw [ht]; exact ⟨hS.1, hS.2.1, fun _ h => by cases h⟩⟩) (fun q hq => hS.2.2 q hq) hd (hlocks := C.locks)
theorem ax_callSi (C : ax_C x Y i h mc ms) {v : Int32} (hM : ax_m Y ad x.1.2.1 j h' σ av (some (.int v)) σ') (cal : ax_calS j n) (lk : Cond.methodLink i.1.cls idx j.1 ∈ ax_tb) (hd : decode i.2.1 pc = .ok (.invokestatic idx, 3)) (hh : h' + 1 ≤ h) (hst : st = av.reverse ++ rest) (hn : av.length = n) (hw : (rest.map fun v => v.category).sum ≤ 8) (hnL : L.length = i.2.2.1) (hc : kc ≤ mc ∧ ks ≤ ms) (kk : ax_S x Y ad kc ks Q σ' (pc + 3) L (.int v :: rest)) : ax_S x Y ad kc ks Q σ pc L st := ax_callS C hM cal lk hd hh hst hn hw hnL hc kk
theorem ax_callSl (C : ax_C x Y i h mc ms) {v : Int64} (hM : ax_m Y ad x.1.2.1 j h' σ av (some (.long v)) σ') (cal : ax_calS j n) (lk : Cond.methodLink i.1.cls idx j.1 ∈ ax_tb) (hd : decode i.2.1 pc = .ok (.invokestatic idx, 3)) (hh : h' + 1 ≤ h) (hst : st = av.reverse ++ rest) (hn : av.length = n) (hw : (rest.map fun v => v.category).sum ≤ 8) (hnL : L.length = i.2.2.1) (hc : kc ≤ mc ∧ ks ≤ ms) (kk : ax_S x Y ad kc ks Q σ' (pc + 3) L (.long v :: rest)) : ax_S x Y ad kc ks Q σ pc L st := ax_callS C hM cal lk hd hh hst hn hw hnL hc kk
theorem ax_callSr (C : ax_C x Y i h mc ms) {v : Nat} (hM : ax_m Y ad x.1.2.1 j h' σ av (some (.ref v)) σ') (cal : ax_calS j n) (lk : Cond.methodLink i.1.cls idx j.1 ∈ ax_tb) (hd : decode i.2.1 pc = .ok (.invokestatic idx, 3)) (hh : h' + 1 ≤ h) (hst : st = av.reverse ++ rest) (hn : av.length = n) (hw : (rest.map fun v => v.category).sum ≤ 8) (hnL : L.length = i.2.2.1) (hc : kc ≤ mc ∧ ks ≤ ms) (kk : ax_S x Y ad kc ks Q σ' (pc + 3) L (.ref v :: rest)) : ax_S x Y ad kc ks Q σ pc L st := ax_callS C hM cal lk hd hh hst hn hw hnL hc kk
theorem ax_callSv (C : ax_C x Y i h mc ms) (hM : ax_m Y ad x.1.2.1 j h' σ av none σ') (cal : ax_calS j n) (lk : Cond.methodLink i.1.cls idx j.1 ∈ ax_tb) (hd : decode i.2.1 pc = .ok (.invokestatic idx, 3)) (hh : h' + 1 ≤ h) (hst : st = av.reverse ++ rest) (hn : av.length = n) (hw : (rest.map fun v => v.category).sum ≤ 8) (hnL : L.length = i.2.2.1) (hc : kc ≤ mc ∧ ks ≤ ms) (kk : ax_S x Y ad kc ks Q σ' (pc + 3) L (rest)) : ax_S x Y ad kc ks Q σ pc L st := ax_callS C hM cal lk hd hh hst hn hw hnL hc kk
theorem ax_callNi (C : ax_C x Y i h mc ms) {v : Int32} {host : String} (hM : ax_m Y ad x.1.2.1 j h' σ av (some (.int v)) σ') (cal : ax_calS j n) (lk : Cond.methodLinkNest i.1.cls idx j.1 host ∈ lw_tbl) (hd : decode i.2.1 pc = .ok (.invokestatic idx, 3)) (hh : h' + 1 ≤ h) (hst : st = av.reverse ++ rest) (hn : av.length = n) (hw : (rest.map fun v => v.category).sum ≤ 8) (hnL : L.length = i.2.2.1) (hc : kc ≤ mc ∧ ks ≤ ms) (kk : ax_S x Y ad kc ks Q σ' (pc + 3) L (.int v :: rest)) : ax_S x Y ad kc ks Q σ pc L st := ax_callN C hM cal lk hd hh hst hn hw hnL hc kk
theorem ax_callNl (C : ax_C x Y i h mc ms) {v : Int64} {host : String} (hM : ax_m Y ad x.1.2.1 j h' σ av (some (.long v)) σ') (cal : ax_calS j n) (lk : Cond.methodLinkNest i.1.cls idx j.1 host ∈ lw_tbl) (hd : decode i.2.1 pc = .ok (.invokestatic idx, 3)) (hh : h' + 1 ≤ h) (hst : st = av.reverse ++ rest) (hn : av.length = n) (hw : (rest.map fun v => v.category).sum ≤ 8) (hnL : L.length = i.2.2.1) (hc : kc ≤ mc ∧ ks ≤ ms) (kk : ax_S x Y ad kc ks Q σ' (pc + 3) L (.long v :: rest)) : ax_S x Y ad kc ks Q σ pc L st := ax_callN C hM cal lk hd hh hst hn hw hnL hc kk
theorem ax_callNr (C : ax_C x Y i h mc ms) {v : Nat} {host : String} (hM : ax_m Y ad x.1.2.1 j h' σ av (some (.ref v)) σ') (cal : ax_calS j n) (lk : Cond.methodLinkNest i.1.cls idx j.1 host ∈ lw_tbl) (hd : decode i.2.1 pc = .ok (.invokestatic idx, 3)) (hh : h' + 1 ≤ h) (hst : st = av.reverse ++ rest) (hn : av.length = n) (hw : (rest.map fun v => v.category).sum ≤ 8) (hnL : L.length = i.2.2.1) (hc : kc ≤ mc ∧ ks ≤ ms) (kk : ax_S x Y ad kc ks Q σ' (pc + 3) L (.ref v :: rest)) : ax_S x Y ad kc ks Q σ pc L st := ax_callN C hM cal lk hd hh hst hn hw hnL hc kk
theorem ax_callNv (C : ax_C x Y i h mc ms) {host : String} (hM : ax_m Y ad x.1.2.1 j h' σ av none σ') (cal : ax_calS j n) (lk : Cond.methodLinkNest i.1.cls idx j.1 host ∈ lw_tbl) (hd : decode i.2.1 pc = .ok (.invokestatic idx, 3)) (hh : h' + 1 ≤ h) (hst : st = av.reverse ++ rest) (hn : av.length = n) (hw : (rest.map fun v => v.category).sum ≤ 8) (hnL : L.length = i.2.2.1) (hc : kc ≤ mc ∧ ks ≤ ms) (kk : ax_S x Y ad kc ks Q σ' (pc + 3) L (rest)) : ax_S x Y ad kc ks Q σ pc L st := ax_callN C hM cal lk hd hh hst hn hw hnL hc kk
theorem ax_callVi (C : ax_C x Y i h mc ms) {v : Int32} {k ci : Nat} {fl : List (Option Nat)} {q : vw_C} {avs : List Value} (hM : ax_m Y ad x.1.2.1 j h' σ (.ref (ad k) :: avs) (some (.int v)) σ') (cal : ax_calV j n) (lk : Cond.methodLink i.1.cls idx j.1 ∈ ax_tb) (hd : decode i.2.1 pc = .ok (.invokevirtual idx, 3)) (hh : h' + 1 ≤ h) (hst : st = avs.reverse ++ .ref (ad k) :: rest) (hs : ax_sh k = .inr (ci, fl)) (hq : vwCl[ci]? = some q) (hqc : q.1 = j.1.cls) (hn : avs.length = n) (hw : (rest.map fun v => v.category).sum ≤ 8) (hnL : L.length = i.2.2.1) (hc : kc ≤ mc ∧ ks ≤ ms) (kk : ax_S x Y ad kc ks Q σ' (pc + 3) L (.int v :: rest)) : ax_S x Y ad kc ks Q σ pc L st := ax_callV C hM cal lk hd hh hst hs hq hqc hn hw hnL hc kk
theorem ax_callVl (C : ax_C x Y i h mc ms) {v : Int64} {k ci : Nat} {fl : List (Option Nat)} {q : vw_C} {avs : List Value} (hM : ax_m Y ad x.1.2.1 j h' σ (.ref (ad k) :: avs) (some (.long v)) σ') (cal : ax_calV j n) (lk : Cond.methodLink i.1.cls idx j.1 ∈ ax_tb) (hd : decode i.2.1 pc = .ok (.invokevirtual idx, 3)) (hh : h' + 1 ≤ h) (hst : st = avs.reverse ++ .ref (ad k) :: rest) (hs : ax_sh k = .inr (ci, fl)) (hq : vwCl[ci]? = some q) (hqc : q.1 = j.1.cls) (hn : avs.length = n) (hw : (rest.map fun v => v.category).sum ≤ 8) (hnL : L.length = i.2.2.1) (hc : kc ≤ mc ∧ ks ≤ ms) (kk : ax_S x Y ad kc ks Q σ' (pc + 3) L (.long v :: rest)) : ax_S x Y ad kc ks Q σ pc L st := ax_callV C hM cal lk hd hh hst hs hq hqc hn hw hnL hc kk
theorem ax_callVr (C : ax_C x Y i h mc ms) {v : Nat} {k ci : Nat} {fl : List (Option Nat)} {q : vw_C} {avs : List Value} (hM : ax_m Y ad x.1.2.1 j h' σ (.ref (ad k) :: avs) (some (.ref v)) σ') (cal : ax_calV j n) (lk : Cond.methodLink i.1.cls idx j.1 ∈ ax_tb) (hd : decode i.2.1 pc = .ok (.invokevirtual idx, 3)) (hh : h' + 1 ≤ h) (hst : st = avs.reverse ++ .ref (ad k) :: rest) (hs : ax_sh k = .inr (ci, fl)) (hq : vwCl[ci]? = some q) (hqc : q.1 = j.1.cls) (hn : avs.length = n) (hw : (rest.map fun v => v.category).sum ≤ 8) (hnL : L.length = i.2.2.1) (hc : kc ≤ mc ∧ ks ≤ ms) (kk : ax_S x Y ad kc ks Q σ' (pc + 3) L (.ref v :: rest)) : ax_S x Y ad kc ks Q σ pc L st := ax_callV C hM cal lk hd hh hst hs hq hqc hn hw hnL hc kk
theorem ax_callVv (C : ax_C x Y i h mc ms) {k ci : Nat} {fl : List (Option Nat)} {q : vw_C} {avs : List Value} (hM : ax_m Y ad x.1.2.1 j h' σ (.ref (ad k) :: avs) none σ') (cal : ax_calV j n) (lk : Cond.methodLink i.1.cls idx j.1 ∈ ax_tb) (hd : decode i.2.1 pc = .ok (.invokevirtual idx, 3)) (hh : h' + 1 ≤ h) (hst : st = avs.reverse ++ .ref (ad k) :: rest) (hs : ax_sh k = .inr (ci, fl)) (hq : vwCl[ci]? = some q) (hqc : q.1 = j.1.cls) (hn : avs.length = n) (hw : (rest.map fun v => v.category).sum ≤ 8) (hnL : L.length = i.2.2.1) (hc : kc ≤ mc ∧ ks ≤ ms) (kk : ax_S x Y ad kc ks Q σ' (pc + 3) L (rest)) : ax_S x Y ad kc ks Q σ pc L st := ax_callV C hM cal lk hd hh hst hs hq hqc hn hw hnL hc kk
theorem ax_iae (C : ax_C x Y i h mc ms) {k m c : Nat} {a : Int32} (hd : decode i.2.1 pc = .ok (.iaload, 1)) (hs : ax_sh k = .inl (0, m)) (ha : a = nI c) (hc : c < m) (hm : m < 2000) (kk : ax_S x Y ad kc ks Q σ (pc + 1) L (.int (σ k c) :: st)) : ax_S x Y ad kc ks Q σ pc L (.int a :: .ref (ad k) :: st) := by
  subst ha
  exact ax_ian C hd hs hc hm kk
theorem ax_ise (C : ax_C x Y i h mc ms) {k m c : Nat} {a v : Int32} (hd : decode i.2.1 pc = .ok (.iastore, 1)) (hs : ax_sh k = .inl (0, m)) (ha : a = nI c) (hc : c < m) (hm : m < 2000) (kk : ax_S x Y ad kc ks Q (ax_up σ k c v) (pc + 1) L st) : ax_S x Y ad kc ks Q σ pc L (.int v :: .int a :: .ref (ad k) :: st) := by
  subst ha
  exact ax_isn C hd hs hc hm kk
theorem ax_val (C : ax_C x Y i h mc ms) {a b : Int32} (e : a = b) (kk : ax_S x Y ad kc ks Q σ pc L (.int b :: st)) : ax_S x Y ad kc ks Q σ pc L (.int a :: st) := by
  subst e
  exact kk
end AXH
