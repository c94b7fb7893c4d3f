/-! the class's own texts: toll cart wait form back go blind -/
def tx_b (i : Nat) : List Int32 := match i with
  | 0 => [116, 111, 108, 108]
  | 1 => [99, 97, 114, 116]
  | 2 => [119, 97, 105, 116]
  | 3 => [102, 111, 114, 109]
  | 4 => [98, 97, 99, 107]
  | 5 => [103, 111]
  | _ => [98, 108, 105, 110, 100]
def tx_i (i : Nat) : Nat := match i with
  | 0 => 52
  | 1 => 74
  | 2 => 92
  | 3 => 94
  | 4 => 96
  | 5 => 98
  | _ => 100
def tx_s (i : Nat) : String := match i with
  | 0 => "toll"
  | 1 => "cart"
  | 2 => "wait"
  | 3 => "form"
  | 4 => "back"
  | 5 => "go"
  | _ => "blind"
/-- text i lies at a, its bytes at v -/
def ax_Sg (Y : ax_Y) (i a v : Nat) : Prop := vk_R "FirstCart$Reader" (tx_i i) (tx_s i) a Y.2.2 ∧ va_O "java/lang/String" a (ax_A Y) Y.2.2 Y.2.2.heap ∧ va_OF "java/lang/String" "coder" "B" (.int 0) a (ax_A Y) Y.2.2 Y.2.2.heap ∧ va_OF "java/lang/String" "value" "[B" (.ref v) a (ax_A Y) Y.2.2 Y.2.2.heap ∧ va_T .byte v (tx_b i).length (fun j => .int ((tx_b i).getD j 0)) (ax_A Y) Y.2.2 Y.2.2.heap
theorem ax_Sg_mk {Y : ax_Y} {i : Nat} {b : Nat} (hw : (Cond.stringRef "FirstCart$Reader" (tx_i i) (tx_s i)).before #[Value.ref b] Y.2.2 = true) (hlen : (tx_b i).length < 2 ^ 31) (h1 : (Cond.exactly (.string "FirstCart$Reader" (tx_i i)) "java/lang/String").before #[Value.ref b] Y.2.2 = true) (h2 : (Cond.eq (.field (.string "FirstCart$Reader" (tx_i i)) "java/lang/String" "coder" "B") (.int 0)).before #[Value.ref b] Y.2.2 = true) (h3 : (Cond.arrayOf (.field (.string "FirstCart$Reader" (tx_i i)) "java/lang/String" "value" "[B") .byte).before #[Value.ref b] Y.2.2 = true)
    (h4 : (Cond.eq (.length (.field (.string "FirstCart$Reader" (tx_i i)) "java/lang/String" "value" "[B")) (.int (Int32.ofNat (tx_b i).length))).before #[Value.ref b] Y.2.2 = true) (h5 : ∀ j : Nat, j < (tx_b i).length → (Cond.eq (.elem (.field (.string "FirstCart$Reader" (tx_i i)) "java/lang/String" "value" "[B") (.int (Int32.ofNat j))) (.int ((tx_b i).getD j 0))).before #[Value.ref b] Y.2.2 = true) : ∃ a v, ax_Sg Y i a v := by
  have hA : ∀ a : Nat, a < Y.2.2.heap.size → ¬ ax_A Y a := fun a h z => Nat.not_le.mpr h z
  obtain ⟨adK, adV, hS, he⟩ := vk_Sof (N := 1) (tm := fun _ => .string "FirstCart$Reader" (tx_i i)) (len := [(tx_b i).length]) (byt := [tx_b i]) (A := ax_A Y) (args := #[Value.ref b]) (s := Y.2.2)
    (fun k hk => by rw [show k = 0 by omega]; exact hlen) (fun k hk => h1) (fun k hk => h2) (fun k hk => h3) (fun k hk => by rw [show k = 0 by omega]; exact h4) (fun k hk j hj => by rw [show k = 0 by omega] at hj ⊢; exact h5 j hj) (fun k j hk hj hn => absurd (show k = j by omega) hn) hA
  obtain ⟨q1, q2, q3, q4⟩ := hS.1 0 (by decide)
  have e := he 0 (by decide)
  exact ⟨adK 0, adV 0, vk_R.of hw e, q1, q2, q3, q4⟩
theorem ax_Sg_0 {Y : ax_Y} (F : ax_F Y) : ∃ a v, ax_Sg Y 0 a v := by
  obtain ⟨b, f1, -, f3⟩ := F
  have hs := flat_of_before _ f3
  refine ax_Sg_mk (f1 _ (List.mem_of_getElem? (i := 354) (by decide +kernel))) (by decide) (hs _ (by decide +kernel)) (hs _ (by decide +kernel)) (hs _ (by decide +kernel)) (hs _ (by decide +kernel)) (fun j hj => ?_)
  match j, hj with
  | 0, _ => exact hs _ (by decide +kernel)
  | 1, _ => exact hs _ (by decide +kernel)
  | 2, _ => exact hs _ (by decide +kernel)
  | 3, _ => exact hs _ (by decide +kernel)
theorem ax_Sg_1 {Y : ax_Y} (F : ax_F Y) : ∃ a v, ax_Sg Y 1 a v := by
  obtain ⟨b, f1, -, f3⟩ := F
  have hs := flat_of_before _ f3
  refine ax_Sg_mk (f1 _ (List.mem_of_getElem? (i := 429) (by decide +kernel))) (by decide) (hs _ (by decide +kernel)) (hs _ (by decide +kernel)) (hs _ (by decide +kernel)) (hs _ (by decide +kernel)) (fun j hj => ?_)
  match j, hj with
  | 0, _ => exact hs _ (by decide +kernel)
  | 1, _ => exact hs _ (by decide +kernel)
  | 2, _ => exact hs _ (by decide +kernel)
  | 3, _ => exact hs _ (by decide +kernel)
theorem ax_Sg_2 {Y : ax_Y} (F : ax_F Y) : ∃ a v, ax_Sg Y 2 a v := by
  obtain ⟨b, f1, -, f3⟩ := F
  have hs := flat_of_before _ f3
  refine ax_Sg_mk (f1 _ (List.mem_of_getElem? (i := 434) (by decide +kernel))) (by decide) (hs _ (by decide +kernel)) (hs _ (by decide +kernel)) (hs _ (by decide +kernel)) (hs _ (by decide +kernel)) (fun j hj => ?_)
  match j, hj with
  | 0, _ => exact hs _ (by decide +kernel)
  | 1, _ => exact hs _ (by decide +kernel)
  | 2, _ => exact hs _ (by decide +kernel)
  | 3, _ => exact hs _ (by decide +kernel)
theorem ax_Sg_3 {Y : ax_Y} (F : ax_F Y) : ∃ a v, ax_Sg Y 3 a v := by
  obtain ⟨b, f1, -, f3⟩ := F
  have hs := flat_of_before _ f3
  refine ax_Sg_mk (f1 _ (List.mem_of_getElem? (i := 435) (by decide +kernel))) (by decide) (hs _ (by decide +kernel)) (hs _ (by decide +kernel)) (hs _ (by decide +kernel)) (hs _ (by decide +kernel)) (fun j hj => ?_)
  match j, hj with
  | 0, _ => exact hs _ (by decide +kernel)
  | 1, _ => exact hs _ (by decide +kernel)
  | 2, _ => exact hs _ (by decide +kernel)
  | 3, _ => exact hs _ (by decide +kernel)
theorem ax_Sg_4 {Y : ax_Y} (F : ax_F Y) : ∃ a v, ax_Sg Y 4 a v := by
  obtain ⟨b, f1, -, f3⟩ := F
  have hs := flat_of_before _ f3
  refine ax_Sg_mk (f1 _ (List.mem_of_getElem? (i := 436) (by decide +kernel))) (by decide) (hs _ (by decide +kernel)) (hs _ (by decide +kernel)) (hs _ (by decide +kernel)) (hs _ (by decide +kernel)) (fun j hj => ?_)
  match j, hj with
  | 0, _ => exact hs _ (by decide +kernel)
  | 1, _ => exact hs _ (by decide +kernel)
  | 2, _ => exact hs _ (by decide +kernel)
  | 3, _ => exact hs _ (by decide +kernel)
theorem ax_Sg_5 {Y : ax_Y} (F : ax_F Y) : ∃ a v, ax_Sg Y 5 a v := by
  obtain ⟨b, f1, -, f3⟩ := F
  have hs := flat_of_before _ f3
  refine ax_Sg_mk (f1 _ (List.mem_of_getElem? (i := 437) (by decide +kernel))) (by decide) (hs _ (by decide +kernel)) (hs _ (by decide +kernel)) (hs _ (by decide +kernel)) (hs _ (by decide +kernel)) (fun j hj => ?_)
  match j, hj with
  | 0, _ => exact hs _ (by decide +kernel)
  | 1, _ => exact hs _ (by decide +kernel)
theorem ax_Sg_6 {Y : ax_Y} (F : ax_F Y) : ∃ a v, ax_Sg Y 6 a v := by
  obtain ⟨b, f1, -, f3⟩ := F
  have hs := flat_of_before _ f3
  refine ax_Sg_mk (f1 _ (List.mem_of_getElem? (i := 438) (by decide +kernel))) (by decide) (hs _ (by decide +kernel)) (hs _ (by decide +kernel)) (hs _ (by decide +kernel)) (hs _ (by decide +kernel)) (fun j hj => ?_)
  match j, hj with
  | 0, _ => exact hs _ (by decide +kernel)
  | 1, _ => exact hs _ (by decide +kernel)
  | 2, _ => exact hs _ (by decide +kernel)
  | 3, _ => exact hs _ (by decide +kernel)
  | 4, _ => exact hs _ (by decide +kernel)
theorem ls_cs : Cond.laysStatic "java/lang/String" "COMPACT_STRINGS" "Z" ∈ lw_tbl := List.mem_of_getElem? (i := 368) (by decide +kernel)
theorem ls_sf : Cond.laysStatic "jdk/internal/util/Preconditions" "SIOOBE_FORMATTER" "Ljava/util/function/BiFunction;" ∈ lw_tbl := List.mem_of_getElem? (i := 384) (by decide +kernel)
theorem in_str : Cond.initialized "java/lang/String" ∈ lw_tbl := List.mem_of_getElem? (i := 45) (by decide +kernel)
theorem in_pre : Cond.initialized "jdk/internal/util/Preconditions" ∈ lw_tbl := List.mem_of_getElem? (i := 47) (by decide +kernel)
theorem fJ_38 : Cond.fieldLink RJ0 38 "java/lang/String" "COMPACT_STRINGS" "Z" ∈ ax_tb := ax_in 367 (by decide +kernel) rfl
theorem fJ_1053 : Cond.fieldLink RJ0 1053 "jdk/internal/util/Preconditions" "SIOOBE_FORMATTER" "Ljava/util/function/BiFunction;" ∈ ax_tb := ax_in 383 (by decide +kernel) rfl
theorem fJ_9 : Cond.fieldLink RJ0 9 "java/lang/String" "value" "[B" ∈ ax_tb := ax_in 1114 (by decide +kernel) rfl
theorem fJ_15 : Cond.fieldLink RJ0 15 "java/lang/String" "coder" "B" ∈ ax_tb := ax_in 1115 (by decide +kernel) rfl
theorem ax_Zc {Y : ax_Y} (F : ax_F Y) : va_Z "java/lang/String" "COMPACT_STRINGS" "Z" (.int 1) (ax_A Y) Y.2.2 Y.2.2.heap := by
  obtain ⟨b, f1, -, f3⟩ := F
  have hs := flat_of_before _ f3
  exact va_Zof (f1 _ ls_cs) (f1 _ in_str) (va_eqt (hs _ (by decide +kernel))) (fun a h z => Nat.not_le.mpr h z)
theorem ax_Zf {Y : ax_Y} (F : ax_F Y) : ∃ v : Value, v.category = 1 ∧ va_Z "jdk/internal/util/Preconditions" "SIOOBE_FORMATTER" "Ljava/util/function/BiFunction;" v (ax_A Y) Y.2.2 Y.2.2.heap := by
  obtain ⟨b, f1, -, f3⟩ := F
  have hs := flat_of_before _ f3
  rcases va_Zqof (A := ax_A Y) (f1 _ ls_sf) (f1 _ in_pre) (hs _ (by decide +kernel)) (fun a h z => Nat.not_le.mpr h z) with h | ⟨t, h⟩
  · exact ⟨.null, rfl, h⟩
  · exact ⟨.ref t, rfl, h⟩
section AXSG
variable {x : ax_T} {Y : ax_Y} {ad : Nat → Nat} {i : ax_I} {h mc ms kc ks pc : Nat} {Q : State → Prop} {σ σ' : ax_Z} {L : List (Option Value)} {st rest avs : List Value} {idx a v n : Nat} {j : ax_I} {h' : Nat} {r : Option Value}
theorem ax_ldcs (C : ax_C x Y i h mc ms) {k : Nat} (hg : ax_Sg Y k a v) (ho : i.1.cls = "FirstCart$Reader") (hd : decode i.2.1 pc = .ok (.ldc (tx_i k), 2)) (kk : ax_S x Y ad kc ks Q σ (pc + 2) L (.ref a :: st)) : ax_S x Y ad kc ks Q σ pc L st := by
  intro H ls locs hP hD hS hL
  exact va_ldcS C.exec C.bytes (by rw [← ho]; exact C.own) (hg.1.warm C.kx.1) hd (kk H ls locs hP hD hS hL)
theorem ax_ofg (C : ax_C x Y i h mc ms) {o nm d : String} {w : Value} (hO : va_OF o nm d w a (ax_A Y) Y.2.2 Y.2.2.heap) (lk : Cond.fieldLink i.1.cls idx o nm d ∈ ax_tb) (hd : decode i.2.1 pc = .ok (.getfield idx, 3)) (kk : ax_S x Y ad kc ks Q σ (pc + 3) L (w :: st)) : ax_S x Y ad kc ks Q σ pc L (.ref a :: st) := by
  intro H ls locs hP hD hS hL
  obtain ⟨cf, k, fi, f, cell, h1, h2, h3, h4, h5, h6⟩ := hO.moved C.kx.1.alike
  exact W.getf C.exec C.bytes C.own (C.hts _ lk) h1 h2 (by rw [hS.2.1 a (Array.getElem?_eq_some_iff.mp h3).1 h6]; exact h3) h4 h5 rfl rfl hd (kk H ls locs hP hD hS hL)
theorem ax_tlen (C : ax_C x Y i h mc ms) {ty : FieldType} {N : Nat} {f : Nat → Value} (hT : va_T ty a N f (ax_A Y) Y.2.2 Y.2.2.heap) (hd : decode i.2.1 pc = .ok (.arraylength, 1)) (kk : ax_S x Y ad kc ks Q σ (pc + 1) L (.int (nI N) :: st)) : ax_S x Y ad kc ks Q σ pc L (.ref a :: st) := by
  intro H ls locs hP hD hS hL
  obtain ⟨cell, h1, h2, h3, h4, h5, h6, h7⟩ := (hT.moved C.kx.1.alike).kept (fun q h1 h2 => hS.2.1 q h1 h2)
  exact W.alen C.exec C.bytes h1 h2 h5 rfl rfl hd (kk H ls locs hP hD hS hL)
theorem ax_tbal (C : ax_C x Y i h mc ms) {N c : Nat} {f : Nat → Int32} (hT : va_T .byte a N (fun j => .int (f j)) (ax_A Y) Y.2.2 Y.2.2.heap) (hc : c < N) (hN : N < 2000) (hd : decode i.2.1 pc = .ok (.baload, 1)) (kk : ax_S x Y ad kc ks Q σ (pc + 1) L (.int (f c) :: st)) : ax_S x Y ad kc ks Q σ pc L (.int (nI c) :: .ref a :: st) := by
  intro H ls locs hP hD hS hL
  obtain ⟨cell, h1, h2, h3, h4, h5, h6, h7⟩ := (hT.moved C.kx.1.alike).kept (fun q h1 h2 => hS.2.1 q h1 h2)
  have ej : (nI c).toNatClampNeg = c := nI_clamp (by omega)
  refine W.bald (v := .int (f c)) C.exec C.bytes h1 h2 h3 ?_ (by rw [ej]; exact h6 c hc) rfl rfl hd (kk H ls locs hP hD hS hL)
  rw [ej]
  rintro (z | z)
  · exact nI_pos (by omega) z
  · omega
theorem ax_gsz (C : ax_C x Y i h mc ms) {o nm d : String} {w : Value} (hZ : va_Z o nm d w (ax_A Y) Y.2.2 Y.2.2.heap) (lk : Cond.fieldLink i.1.cls idx o nm d ∈ ax_tb) (hd : decode i.2.1 pc = .ok (.getstatic idx, 3)) (kk : ax_S x Y ad kc ks Q σ (pc + 3) L (w :: st)) : ax_S x Y ad kc ks Q σ pc L st := by
  intro H ls locs hP hD hS hL
  obtain ⟨cf, kf, fi, f, a1, cell, h1, h2, h3, h4, h5, h6, h7, h8⟩ := (hZ.moved C.kx.1.alike).kept (fun q h1 h2 => hS.2.1 q h1 h2)
  exact W.gets C.exec C.bytes C.own (C.hts _ lk) h1 h2 h3 h4 h5 (fun e => by rw [e] at h6; cases h6) h7 rfl hd (kk H ls locs hP hD hS hL)
theorem ax_callO (C : ax_C x Y i h mc ms) {w : Int32} (hO : va_O j.1.cls a (ax_A Y) Y.2.2 Y.2.2.heap) (hM : ax_m Y ad x.1.2.1 j h' σ (.ref a :: avs) (some (.int w)) σ') (cal : ax_calV j n) (lk : Cond.methodLink i.1.cls idx j.1 ∈ ax_tb) (hd : decode i.2.1 pc = .ok (.invokevirtual idx, 3)) (hh : h' + 1 ≤ h) (hst : st = avs.reverse ++ .ref a :: rest) (hn : avs.length = n) (hw : (rest.map fun v => v.category).sum ≤ 8) (hnL : L.length = i.2.2.1) (hc : kc ≤ mc ∧ ks ≤ ms)
    (kk : ax_S x Y ad kc ks Q σ' (pc + 3) L (.int w :: rest)) : ax_S x Y ad kc ks Q σ pc L st := by
  intro H ls locs hP hD hS hL
  obtain ⟨-, -, q3, q4⟩ := C.room
  subst hst
  obtain ⟨cell, o1, o2, o3, o4⟩ := hO
  have hrc : ∃ cellB : Cell, H[a]? = some cellB ∧ cellB.vm.isStatics = false ∧ x.2.1.1.vm.findClass j.1.cls = some cellB.cls := ⟨cell, by rw [hS.2.1 a (Array.getElem?_eq_some_iff.mp o1).1 o4]; exact o1, o2, by rw [C.kx.1.alike.findClass]; exact o3⟩
  refine ax_back (va_runV (As := avs) (rest := rest) (Ts := ax_tb) (nL := i.2.2.1) ⟨C.exec, C.bytes, C.maxL, C.own, C.hts⟩ (hM _ (Nat.le_refl _) (Nat.le_refl _) rfl rfl) ⟨ax_calB C cal.1 lk hh, C.hts _ cal.2.1, C.hts _ cal.2.2⟩ ⟨ax_blind, hrc, fun U hU hW => ⟨rfl, ax_kx_at C hU hW hS, by rw [hU]; exact hP, hD⟩⟩ rfl hn (hL.1.trans hnL) rfl (lv_room hw) hd ⟨by rw [q3]; exact hc.1, by rw [q4]; exact hc.2⟩) hS (fun H1 locs1 hP1 hS1 => kk H1 ls locs1 hP1 (ax_D_any hD) hS1 hL)
end AXSG
