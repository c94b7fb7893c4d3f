/-! the class's own constant rows: NEAREST, SIZE_BODY, MARK_BODY -/
def ax_sv (k : Nat) : List Int32 := match k with
  | 0 => [0, 0, 1, 1, 0, 4]
  | 1 => [10, 11, 12, 0, 13, 14]
  | _ => [20, 21, 24, 22, 23, 0]
def ax_sn (k : Nat) : String := match k with
  | 0 => "NEAREST"
  | 1 => "SIZE_BODY"
  | _ => "MARK_BODY"
def ax_St (Y : ax_Y) (k a : Nat) : Prop := va_Z "FirstCart" (ax_sn k) "[I" (.ref a) (ax_A Y) Y.2.2 Y.2.2.heap ∧ va_T .int a 6 (fun j => .int ((ax_sv k).getD j 0)) (ax_A Y) Y.2.2 Y.2.2.heap
theorem ls_0 : Cond.laysStatic "FirstCart" (ax_sn 0) "[I" ∈ lw_tbl := List.mem_of_getElem? (i := 665) (by decide +kernel)
theorem ls_1 : Cond.laysStatic "FirstCart" (ax_sn 1) "[I" ∈ lw_tbl := List.mem_of_getElem? (i := 671) (by decide +kernel)
theorem ls_2 : Cond.laysStatic "FirstCart" (ax_sn 2) "[I" ∈ lw_tbl := List.mem_of_getElem? (i := 673) (by decide +kernel)
theorem ls_i : Cond.initialized "FirstCart" ∈ lw_tbl := (List.mem_filter.mp kX6_isRow.1.2.1).1
theorem ax_St_mk {Y : ax_Y} {k : Nat} {args : Array Value} (h1 : (Cond.laysStatic "FirstCart" (ax_sn k) "[I").before args Y.2.2 = true) (h2 : (Cond.initialized "FirstCart").before args Y.2.2 = true) (h3 : (Cond.arrayOf (.static "FirstCart" (ax_sn k) "[I") .int).before args Y.2.2 = true) (h4 : (Cond.eq (.length (.static "FirstCart" (ax_sn k) "[I")) (.int 6)).before args Y.2.2 = true)
    (h5 : ∀ j : Nat, j < 6 → (Cond.eq (.elem (.static "FirstCart" (ax_sn k) "[I") (.int (Int32.ofNat j))) (.int ((ax_sv k).getD j 0))).before args Y.2.2 = true) : ∃ a, ax_St Y k a := by
  have hA : ∀ a : Nat, a < Y.2.2.heap.size → ¬ ax_A Y a := fun a h z => Nat.not_le.mpr h z
  obtain ⟨t, ht, hT⟩ := va_Tof (N := 6) (f := fun j => .int ((ax_sv k).getD j 0)) (A := ax_A Y) (by decide) h3 (va_eqt h4) (fun j hj => va_eqt (h5 j hj)) hA
  exact ⟨t, va_Zof h1 h2 ht hA, hT⟩
theorem ax_lt6 {P : Nat → Prop} (h0 : P 0) (h1 : P 1) (h2 : P 2) (h3 : P 3) (h4 : P 4) (h5 : P 5) : ∀ c, c < 6 → P c := by
  intro c h
  match c, h with
  | 0, _ => exact h0
  | 1, _ => exact h1
  | 2, _ => exact h2
  | 3, _ => exact h3
  | 4, _ => exact h4
  | 5, _ => exact h5
theorem ax_St_0 {Y : ax_Y} (F : ax_F Y) : ∃ a, ax_St Y 0 a := by
  obtain ⟨b, f1, -, f3⟩ := F
  have hs := flat_of_before _ f3
  exact ax_St_mk (f1 _ ls_0) (f1 _ ls_i) (hs _ (by decide +kernel)) (hs _ (by decide +kernel)) (ax_lt6 (hs _ (by decide +kernel)) (hs _ (by decide +kernel)) (hs _ (by decide +kernel)) (hs _ (by decide +kernel)) (hs _ (by decide +kernel)) (hs _ (by decide +kernel)))
theorem ax_St_1 {Y : ax_Y} (F : ax_F Y) : ∃ a, ax_St Y 1 a := by
  obtain ⟨b, f1, -, f3⟩ := F
  have hs := flat_of_before _ f3
  exact ax_St_mk (f1 _ ls_1) (f1 _ ls_i) (hs _ (by decide +kernel)) (hs _ (by decide +kernel)) (ax_lt6 (hs _ (by decide +kernel)) (hs _ (by decide +kernel)) (hs _ (by decide +kernel)) (hs _ (by decide +kernel)) (hs _ (by decide +kernel)) (hs _ (by decide +kernel)))
theorem ax_St_2 {Y : ax_Y} (F : ax_F Y) : ∃ a, ax_St Y 2 a := by
  obtain ⟨b, f1, -, f3⟩ := F
  have hs := flat_of_before _ f3
  exact ax_St_mk (f1 _ ls_2) (f1 _ ls_i) (hs _ (by decide +kernel)) (hs _ (by decide +kernel)) (ax_lt6 (hs _ (by decide +kernel)) (hs _ (by decide +kernel)) (hs _ (by decide +kernel)) (hs _ (by decide +kernel)) (hs _ (by decide +kernel)) (hs _ (by decide +kernel)))
theorem st_254 : Cond.fieldLink RX6 254 "FirstCart" (ax_sn 0) "[I" ∈ ax_tb := ax_in 664 (by decide +kernel) rfl
theorem st_231 : Cond.fieldLink RX6 231 "FirstCart" (ax_sn 1) "[I" ∈ ax_tb := ax_in 670 (by decide +kernel) rfl
theorem st_234 : Cond.fieldLink RX6 234 "FirstCart" (ax_sn 2) "[I" ∈ ax_tb := ax_in 672 (by decide +kernel) rfl
theorem sn_35 : Cond.fieldLinkNest RX1 35 "FirstCart" (ax_sn 2) "[I" "FirstCart" ∈ lw_tbl := List.mem_of_getElem? (i := 685) (by decide +kernel)
theorem sn_41 : Cond.fieldLinkNest RX1 41 "FirstCart" (ax_sn 1) "[I" "FirstCart" ∈ lw_tbl := List.mem_of_getElem? (i := 686) (by decide +kernel)
section AXST
variable {x : ax_T} {Y : ax_Y} {ad : Nat → Nat} {i : ax_I} {h mc ms kc ks pc : Nat} {Q : State → Prop} {σ : ax_Z} {L : List (Option Value)} {st : List Value} {idx k a : Nat}
theorem ax_gets (C : ax_C x Y i h mc ms) (hst : ax_St Y k a) (lk : Cond.fieldLink i.1.cls idx "FirstCart" (ax_sn k) "[I" ∈ ax_tb) (hd : decode i.2.1 pc = .ok (.getstatic idx, 3)) (kk : ax_S x Y ad kc ks Q σ (pc + 3) L (.ref a :: st)) : ax_S x Y ad kc ks Q σ pc L st := by
  intro H ls locs hP hD hS hL
  obtain ⟨cf, kf, fi, f, a1, cell, h1, h2, h3, h4, h5, h6, h7, h8⟩ := (hst.1.moved C.kx.1.alike).kept (fun q h1 h2 => hS.2.1 q h1 h2)
  exact W.gets C.exec C.bytes C.own (C.hts _ lk) h1 h2 h3 h4 h5 (fun e => by rw [e] at h6; cases h6) h7 rfl hd (kk H ls locs hP hD hS hL)
theorem ax_getsN (C : ax_C x Y i h mc ms) {host : String} (hst : ax_St Y k a) (lk : Cond.fieldLinkNest i.1.cls idx "FirstCart" (ax_sn k) "[I" host ∈ lw_tbl) (hd : decode i.2.1 pc = .ok (.getstatic idx, 3)) (kk : ax_S x Y ad kc ks Q σ (pc + 3) L (.ref a :: st)) : ax_S x Y ad kc ks Q σ pc L st := by
  intro H ls locs hP hD hS hL
  obtain ⟨b, f1, f2, f3⟩ := id C.F
  have hnw : (Cond.fieldLinkNest i.1.cls idx "FirstCart" (ax_sn k) "[I" host).before x.2.1.2.2 x.2.1.1 = true := va_Nw.use rfl (va_Nw.warmF C.kx.1 (va_Nw.of rfl (f1 _ lk)))
  obtain ⟨cf, kf, fi, f, a1, cell, h1, h2, h3, h4, h5, h6, h7, h8⟩ := (hst.1.moved C.kx.1.alike).kept (fun q h1 h2 => hS.2.1 q h1 h2)
  exact va_WgetsN C.exec C.bytes C.own hnw h1 h2 h3 h4 h5 (fun e => by rw [e] at h6; cases h6) h7 rfl hd (kk H ls locs hP hD hS hL)
theorem ax_sta (C : ax_C x Y i h mc ms) (hst : ax_St Y k a) {v w : Int32} (j : Nat) (hj : j < 6) (hv : v = nI j) (hw : (ax_sv k).getD j 0 = w) (hd : decode i.2.1 pc = .ok (.iaload, 1)) (kk : ax_S x Y ad kc ks Q σ (pc + 1) L (.int w :: st)) : ax_S x Y ad kc ks Q σ pc L (.int v :: .ref a :: st) := by
  intro H ls locs hP hD hS hL
  subst hv; subst hw
  obtain ⟨cell, h1, h2, h3, h4, h5, h6, h7⟩ := (hst.2.moved C.kx.1.alike).kept (fun q h1 h2 => hS.2.1 q h1 h2)
  have ej : (nI j).toNatClampNeg = j := nI_clamp (by omega)
  refine W.iald (v := .int ((ax_sv k).getD j 0)) C.exec C.bytes h1 h2 h3 ?_ (by rw [ej]; exact h6 j hj) rfl rfl hd (kk H ls locs hP hD hS hL)
  rw [ej]
  rintro (z | z)
  · exact nI_pos (by omega) z
  · omega
end AXST
