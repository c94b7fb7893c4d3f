/-! CONSTRUCTORS: worlds that grow -/
theorem ob_i : Cond.instanceMethod objectInit ∈ ax_tb := ax_in 57 (by decide +kernel) rfl
theorem ob_c : Cond.code objectInit ⟨#[0xb1]⟩ 1 none ∈ ax_tb := ax_in 58 (by decide +kernel) rfl
theorem ob_0 : Cond.methodLink RX0 3 objectInit ∈ ax_tb := ax_in 179 (by decide +kernel) rfl
theorem ob_1 : Cond.methodLink RX1 3 objectInit ∈ ax_tb := ax_in 211 (by decide +kernel) rfl
theorem ob_2 : Cond.methodLink RX2 3 objectInit ∈ ax_tb := ax_in 198 (by decide +kernel) rfl
theorem ob_3 : Cond.methodLink RX3 3 objectInit ∈ ax_tb := ax_in 72 (by decide +kernel) rfl
theorem ob_4 : Cond.methodLink RX4 3 objectInit ∈ ax_tb := ax_in 66 (by decide +kernel) rfl
theorem ob_5 : Cond.methodLink RX5 3 objectInit ∈ ax_tb := ax_in 225 (by decide +kernel) rfl
theorem ob_6 : Cond.methodLink RX6 1 objectInit ∈ ax_tb := ax_in 56 (by decide +kernel) rfl
theorem ob_7 : Cond.methodLink RX7 1 objectInit ∈ ax_tb := ax_in 716 (by decide +kernel) rfl
theorem im_0 : Cond.instanceMethod yX0_init ∈ ax_tb := ax_in 177 (by decide +kernel) rfl
theorem im_1 : Cond.instanceMethod yX1_init ∈ ax_tb := ax_in 209 (by decide +kernel) rfl
theorem im_2 : Cond.instanceMethod yX2_init ∈ ax_tb := ax_in 196 (by decide +kernel) rfl
theorem im_3 : Cond.instanceMethod yX3_init ∈ ax_tb := ax_in 70 (by decide +kernel) rfl
theorem im_4 : Cond.instanceMethod yX4_init ∈ ax_tb := ax_in 64 (by decide +kernel) rfl
theorem im_5 : Cond.instanceMethod yX5_init ∈ ax_tb := ax_in 223 (by decide +kernel) rfl
theorem im_6 : Cond.instanceMethod yX6_init ∈ ax_tb := ax_in 54 (by decide +kernel) rfl
theorem im_7 : Cond.instanceMethod yX7_init ∈ ax_tb := ax_in 714 (by decide +kernel) rfl
theorem cn_L6 : Cond.classLink RL 7 RX6 ∈ ax_tb := ax_in 51 (by decide +kernel) rfl
theorem cn_L7 : Cond.classLink RL 10 RX7 ∈ ax_tb := ax_in 711 (by decide +kernel) rfl
theorem cn_65 : Cond.classLink RX6 9 RX5 ∈ ax_tb := ax_in 59 (by decide +kernel) rfl
theorem cn_64 : Cond.classLink RX6 15 RX4 ∈ ax_tb := ax_in 61 (by decide +kernel) rfl
theorem cn_43 : Cond.classLink RX4 15 RX3 ∈ ax_tb := ax_in 67 (by decide +kernel) rfl
theorem cn_63 : Cond.classLink RX6 22 RX3 ∈ ax_tb := ax_in 171 (by decide +kernel) rfl
theorem cn_60 : Cond.classLink RX6 33 RX0 ∈ ax_tb := ax_in 174 (by decide +kernel) rfl
theorem cn_62 : Cond.classLink RX6 40 RX2 ∈ ax_tb := ax_in 193 (by decide +kernel) rfl
theorem cn_23 : Cond.classLink RX2 9 RX3 ∈ ax_tb := ax_in 199 (by decide +kernel) rfl
theorem cn_61 : Cond.classLink RX6 47 RX1 ∈ ax_tb := ax_in 206 (by decide +kernel) rfl
theorem is_0 : Cond.instantiable RX0 3 ∈ ax_tb := ax_in 175 (by decide +kernel) rfl
theorem is_1 : Cond.instantiable RX1 2 ∈ ax_tb := ax_in 207 (by decide +kernel) rfl
theorem is_2 : Cond.instantiable RX2 1 ∈ ax_tb := ax_in 194 (by decide +kernel) rfl
theorem is_3 : Cond.instantiable RX3 12 ∈ ax_tb := ax_in 68 (by decide +kernel) rfl
theorem is_4 : Cond.instantiable RX4 8 ∈ ax_tb := ax_in 62 (by decide +kernel) rfl
theorem is_5 : Cond.instantiable RX5 4 ∈ ax_tb := ax_in 221 (by decide +kernel) rfl
theorem is_6 : Cond.instantiable RX6 9 ∈ ax_tb := ax_in 52 (by decide +kernel) rfl
theorem is_7 : Cond.instantiable RX7 35 ∈ ax_tb := ax_in 712 (by decide +kernel) rfl
theorem it_0 : Cond.initialized RX0 ∈ ax_tb := ax_in 38 (by decide +kernel) rfl
theorem it_1 : Cond.initialized RX1 ∈ ax_tb := ax_in 40 (by decide +kernel) rfl
theorem it_2 : Cond.initialized RX2 ∈ ax_tb := ax_in 39 (by decide +kernel) rfl
theorem it_3 : Cond.initialized RX3 ∈ ax_tb := ax_in 37 (by decide +kernel) rfl
theorem it_4 : Cond.initialized RX4 ∈ ax_tb := ax_in 36 (by decide +kernel) rfl
theorem it_5 : Cond.initialized RX5 ∈ ax_tb := ax_in 41 (by decide +kernel) rfl
theorem it_6 : Cond.initialized RX6 ∈ ax_tb := ax_in 35 (by decide +kernel) rfl
theorem it_7 : Cond.initialized RX7 ∈ ax_tb := ax_in 42 (by decide +kernel) rfl
theorem ar_b : Cond.arrayClass .byte ∈ ax_tb := ax_in 139 (by decide +kernel) rfl
theorem ar_i : Cond.arrayClass .int ∈ ax_tb := ax_in 140 (by decide +kernel) rfl
theorem ar_z : Cond.arrayClass .boolean ∈ ax_tb := ax_in 823 (by decide +kernel) rfl
theorem ao_5 : Cond.arrayOver (.object RX5) ∈ lw_tbl := List.mem_of_getElem? (i := 60) (by decide +kernel)
theorem ao_3 : Cond.arrayOver (.object RX3) ∈ lw_tbl := List.mem_of_getElem? (i := 173) (by decide +kernel)
/-- the numbers that a new world holds -/
def ax_i0 : ax_Z := fun a b => if a = 78 ∧ b < 8 then -1 else 0
theorem ax_i0_0 {a : Nat} (h : a ≠ 78) : ax_i0 a = fun _ => 0 := by
  funext b
  exact if_neg (fun z => h z.1)
def gB (Y : ax_Y) (ad : Nat → Nat) (p : Nat) (g : Nat → va_E) : Nat → va_E := fun j => if j < p then g j else ax_g Y ad ax_i0 j
def ax_QI (Y : ax_Y) (ad : Nat → Nat) (p q : Nat) (g : Nat → va_E) : Array Value → State → Outcome → State → Prop := fun _ _ o t => o = .returned none ∧ ∃ ad' : Nat → Nat, (∀ k, k < p + 1 → ad' k = ad k) ∧ va_P Y.1 vwCl (ax_hw ad' q (gB Y ad' p g)) t.heap ∧ va_D (ax_A Y) (ax_hw ad' q (gB Y ad' p g)) ∧ va_S (ax_A Y) Y.2.2.heap t.heap []
def ax_MI (Y : ax_Y) (l : Launch) (j : ax_I) (h mc ms p q : Nat) (d : va_E) : Prop := ∀ (ad : Nat → Nat) (g : Nat → va_E), g p = d →
  ∀ rm : Room, h ≤ rm.frames → 64 * h ≤ rm.locals → rm.cells = mc → rm.slots = ms → Met l j.1 [.code j.1 j.2.1 j.2.2.1 j.2.2.2] rm (ax_Pc Y ad (p + 1) g [.ref (ad p)]) (ax_QI Y ad p q g) mc ms (ax_A Y)
abbrev ax_QQI (x : ax_T) (Y : ax_Y) (ad : Nat → Nat) (p q : Nat) (g : Nat → va_E) (mc ms : Nat) : State → Prop := MQ x.2.2.1 (ax_QI Y ad p q g) x.2.1.2.2 x.2.1.1 mc ms (ax_A Y)
theorem ax_MI.of {Y : ax_Y} {l : Launch} {j : ax_I} {h mc ms p q n : Nat} {d : va_E} (F : ax_F Y) (cal : ax_cal j n) (hn1 : 1 ≤ j.2.2.1)
    (body : ∀ (x : ax_T) (ad : Nat → Nat) (g : Nat → va_E), g p = d → ax_C x Y j h mc ms → ax_V x Y ad 0 0 (ax_QQI x Y ad p q g mc ms) (p + 1) g 0 (ax_Lav j.2.2.1 [.ref (ad p)]) []) : ax_MI Y l j h mc ms p q d := by
  intro ad g hg rm r1 r2 r3 r4
  refine Met.ofW (cc := j.2.1) (maxL := j.2.2.1) (ret := j.2.2.2) cal.2.2.2.2.2 rfl ?_
  intro p' e s m args below meth c s₁ B hml hv
  obtain ⟨rfl, hkx, hP, hD⟩ := hv
  rw [lg_entry_eq]
  obtain ⟨b, f1, f2, f3⟩ := id F
  refine body ((p', l, e, rm), (s, m, [Value.ref (ad p)].toArray), (below, meth, c)) ad g hg ⟨B.exec, B.bytes, hml, findClass_of_methodNamed B.named, ax_word F hkx.1 _, va_K.moved hkx.1.alike f2, B.returns, B.notSynchronized, ⟨r1, r2, r3, r4⟩, hkx, F, fun e => ?_⟩ s.heap _ [] hP hD hkx.2 (ax_entry (by show 1 ≤ _; exact hn1))
  exact (name_of_methodNamed B.named B.method).1.trans e
section AXI
variable {x : ax_T} {Y : ax_Y} {ad : Nat → Nat} {i : ax_I} {h mc ms kc ks N pc : Nat} {Q : State → Prop} {g g' : Nat → va_E} {L : List (Option Value)} {st rest : List Value} {idx : Nat}
theorem ax_Vg (e : ∀ k, k < N → g k = g' k) (kk : ax_V x Y ad kc ks Q N g' pc L st) : ax_V x Y ad kc ks Q N g pc L st := by
  have q : ax_hw ad N g = ax_hw ad N g' := List.map_congr_left (fun k hk => by rw [e k (List.mem_range.mp hk)])
  intro H ls locs hP hD hS hL
  rw [q] at hP hD
  exact kk H ls locs hP hD hS hL
theorem ax_VL {L' : List (Option Value)} (e : L = L') (kk : ax_V x Y ad kc ks Q N g pc L' st) : ax_V x Y ad kc ks Q N g pc L st := by
  subst e
  exact kk
theorem va_K_last {D : va_G} {cl : List vw_C} {tys : List (ClassId × FieldType)} {cA : ClassId} {ty : FieldType} {U : State} (h : va_K D cl (tys ++ [(cA, ty)]) U) : va_RA U cA ty := by
  refine (h.2 tys.length (cA, ty) ?_).2
  rw [List.getElem?_append_right (Nat.le_refl _), Nat.sub_self]
  rfl
theorem ai_newI (C : ax_C x Y i h mc ms) {n : Nat} {v : Int32} (hv : v = nI n) (hn : n < 2000) (hd : decode i.2.1 pc = .ok (.newarray .int, 2)) (hc : kc + 1 ≤ mc ∧ ks + n ≤ ms) (kk : ∀ q, ax_V x Y (va_up ad N q) (kc + 1) (ks + n) Q (N + 1) (va_up g N (.inl (Y.2.1 0, n, .inl (fun _ => 0)))) (pc + 2) L (.ref q :: st)) : ax_V x Y ad kc ks Q N g pc L (.int v :: st) := by
  subst hv
  intro H ls locs hP hD hS hL
  obtain ⟨-, -, q3, q4⟩ := C.room
  refine va_newa (atype := .int) (ty := .int) (a0 := (n, .inl (fun _ => 0))) C.exec C.bytes (C.hts _ ar_i) rfl C.hK hP hD hS (fun q h => h) (fun cA => rfl) (nI_pos (by omega)) (nI_clamp (by omega)) (by show n * 4 ≤ _; omega) (by rw [q3]; exact hc.1) (by rw [q4]; exact hc.2) hd (fun q cA H1 hK1 hP1 hD1 hS1 => ?_)
  have e : cA = Y.2.1 0 := Option.some.inj ((va_K_last hK1).symm.trans (C.hK.2 0 (Y.2.1 0, .int) rfl).2)
  subst e
  rw [ax_hw_push] at hP1 hD1
  exact kk q H1 ls locs hP1 hD1 hS1 hL
theorem ai_newB (C : ax_C x Y i h mc ms) {n : Nat} {v : Int32} (hv : v = nI n) (hn : n < 2000) (hd : decode i.2.1 pc = .ok (.newarray .byte, 2)) (hc : kc + 1 ≤ mc ∧ ks + n ≤ ms) (kk : ∀ q, ax_V x Y (va_up ad N q) (kc + 1) (ks + n) Q (N + 1) (va_up g N (.inl (Y.2.1 1, n, .inl (fun _ => 0)))) (pc + 2) L (.ref q :: st)) : ax_V x Y ad kc ks Q N g pc L (.int v :: st) := by
  subst hv
  intro H ls locs hP hD hS hL
  obtain ⟨-, -, q3, q4⟩ := C.room
  refine va_newa (atype := .byte) (ty := .byte) (a0 := (n, .inl (fun _ => 0))) C.exec C.bytes (C.hts _ ar_b) rfl C.hK hP hD hS (fun q h => h) (fun cA => rfl) (nI_pos (by omega)) (nI_clamp (by omega)) (by show n * 1 ≤ _; omega) (by rw [q3]; exact hc.1) (by rw [q4]; exact hc.2) hd (fun q cA H1 hK1 hP1 hD1 hS1 => ?_)
  have e : cA = Y.2.1 1 := Option.some.inj ((va_K_last hK1).symm.trans (C.hK.2 1 (Y.2.1 1, .byte) rfl).2)
  subst e
  rw [ax_hw_push] at hP1 hD1
  exact kk q H1 ls locs hP1 hD1 hS1 hL
theorem ai_newZ (C : ax_C x Y i h mc ms) {n : Nat} {v : Int32} (hv : v = nI n) (hn : n < 2000) (hd : decode i.2.1 pc = .ok (.newarray .boolean, 2)) (hc : kc + 1 ≤ mc ∧ ks + n ≤ ms) (kk : ∀ q, ax_V x Y (va_up ad N q) (kc + 1) (ks + n) Q (N + 1) (va_up g N (.inl (Y.2.1 2, n, .inl (fun _ => 0)))) (pc + 2) L (.ref q :: st)) : ax_V x Y ad kc ks Q N g pc L (.int v :: st) := by
  subst hv
  intro H ls locs hP hD hS hL
  obtain ⟨-, -, q3, q4⟩ := C.room
  refine va_newa (atype := .boolean) (ty := .boolean) (a0 := (n, .inl (fun _ => 0))) C.exec C.bytes (C.hts _ ar_z) rfl C.hK hP hD hS (fun q h => h) (fun cA => rfl) (nI_pos (by omega)) (nI_clamp (by omega)) (by show n * 1 ≤ _; omega) (by rw [q3]; exact hc.1) (by rw [q4]; exact hc.2) hd (fun q cA H1 hK1 hP1 hD1 hS1 => ?_)
  have e : cA = Y.2.1 2 := Option.some.inj ((va_K_last hK1).symm.trans (C.hK.2 2 (Y.2.1 2, .boolean) rfl).2)
  subst e
  rw [ax_hw_push] at hP1 hD1
  exact kk q H1 ls locs hP1 hD1 hS1 hL
theorem ai_newQ (C : ax_C x Y i h mc ms) {n t : Nat} {cN : String} {v : Int32} (hv : v = nI n) (hn : n < 2000) (ht : (ax_tys Y.2.1)[t]? = some (Y.2.1 t, .object cN)) (hlk : Cond.classLink i.1.cls idx cN ∈ ax_tb) (hao : Cond.arrayOver (.object cN) ∈ lw_tbl) (hd : decode i.2.1 pc = .ok (.anewarray idx, 3)) (hc : kc + 1 ≤ mc ∧ ks + n ≤ ms) (kk : ∀ q, ax_V x Y (va_up ad N q) (kc + 1) (ks + n) Q (N + 1) (va_up g N (.inl (Y.2.1 t, n, .inr (.inr (.inr (.inr (fun _ => none))))))) (pc + 3) L (.ref q :: st)) : ax_V x Y ad kc ks Q N g pc L (.int v :: st) := by
  subst hv
  intro H ls locs hP hD hS hL
  obtain ⟨-, -, q3, q4⟩ := C.room
  obtain ⟨b, f1, -, -⟩ := id C.F
  refine va_newq C.exec C.bytes C.own (C.hts _ hlk) (va_AO.moved C.kx.1.alike (va_AO.of (f1 _ hao))) C.hK hP hD hS (fun q h => h) (nI_pos (by omega)) (nI_clamp (by omega)) (by omega) (by rw [q3]; exact hc.1) (by rw [q4]; exact hc.2) hd (fun q cA H1 hK1 hP1 hD1 hS1 => ?_)
  have e : cA = Y.2.1 t := by
    obtain ⟨kA, comp, -, -, -, h1⟩ := va_K_last hK1
    obtain ⟨kB, comb, -, -, -, h2⟩ := (C.hK.2 t _ ht).2
    exact Option.some.inj (h1.symm.trans h2)
  subst e
  rw [ax_hw_push] at hP1 hD1
  exact kk q H1 ls locs hP1 hD1 hS1 hL
theorem ai_new (C : ax_C x Y i h mc ms) {ci : Nat} {q : vw_C} {ty0 : Nat → FieldType} {fs : List Value} (hcl : ax_CL ci q ty0) (hlk : Cond.classLink i.1.cls idx q.1 ∈ ax_tb) (hins : Cond.instantiable q.1 q.2.2 ∈ ax_tb) (hini : Cond.initialized q.1 ∈ ax_tb) (hfs : ∀ j, j < q.2.2 → defaultValue (ty0 j) = vp_V fs j) (hd : decode i.2.1 pc = .ok (.new idx, 3)) (hc : kc + 1 ≤ mc ∧ ks + q.2.2 ≤ ms)
    (kk : ∀ a, ax_V x Y (va_up ad N a) (kc + 1) (ks + q.2.2) Q (N + 1) (va_up g N (.inr (ci, fs))) (pc + 3) L (.ref a :: st)) : ax_V x Y ad kc ks Q N g pc L st := by
  intro H ls locs hP hD hS hL
  obtain ⟨-, -, q3, q4⟩ := C.room
  obtain ⟨c1, c2, c3, c4⟩ := hcl
  refine va_new (T := q.2.1) (N := q.2.2) C.exec C.bytes C.hts c2 ty0 c3 C.own (C.hts _ hlk) (C.hts _ hins) (C.hts _ hini) C.hK hP hD hS (fun q h => h) c1 hfs (by rw [q3]; exact hc.1) (by rw [q4]; exact hc.2) hd (fun a H1 hP1 hD1 hS1 => ?_)
  rw [ax_hw_push] at hP1 hD1
  exact kk a H1 ls locs hP1 hD1 hS1 hL
theorem ai_putF (C : ax_C x Y i h mc ms) {k f ci v a : Nat} {fs : List Value} {ty : FieldType} (lk : ax_FL i.1.cls idx ci f true ty) (hd : decode i.2.1 pc = .ok (.putfield idx, 3)) (hk : k < N) (ha : ad k = a) (hg : g k = .inr (ci, fs)) (hni : i.1.name = "<init>") (hdecl : ∀ q, vwCl[ci]? = some q → (q.2.1 f).1 = i.1.cls) (hn : narrow ty (.ref v) = .ref v) (hfit : fits ty (.ref v) = true) (hl : f < fs.length)
    (kk : ax_V x Y ad kc ks Q N (va_up g k (.inr (ci, fs.set f (.ref v)))) (pc + 3) L st) : ax_V x Y ad kc ks Q N g pc L (.ref v :: .ref a :: st) := by
  subst ha
  obtain ⟨q, ty0, ⟨c1, c2, c3, c4⟩, l1, l2, l3, l4⟩ := lk
  intro H ls locs hP hD hS hL
  refine va_putF (Ts := ax_tb) C.exec C.bytes C.hts c2 ty0 c3 c4 C.own C.hK hP hD hS k (by rw [ax_hw_get hk, hg]) c1 f l1 (C.hts _ l2) (fun _ z => z) l3 (C.2.2.2.2.2.2.2.2.2.2.2 hni) (hdecl q c1) (c3 f l1) (by rw [l4]; exact hn) (by rw [l4]; exact hfit) hl hd (fun H1 locs1 hP1 hD1 hS1 => ?_)
  rw [ax_hw_set] at hP1 hD1
  exact kk H1 ls locs1 hP1 hD1 hS1 hL
theorem ai_ast (C : ax_C x Y i h mc ms) {k kv t n ci a b r : Nat} {v : Int32} {q : vw_C} {fs : List Value} {f : Nat → Option Nat} (hd : decode i.2.1 pc = .ok (.aastore, 1)) (hk : k < N) (ha : ad k = a) (hg : g k = .inl (Y.2.1 t, n, .inr (.inr (.inr (.inr f))))) (ht : (ax_tys Y.2.1)[t]? = some (Y.2.1 t, .object q.1)) (hkv : kv < N) (hb : ad kv = b) (hgv : g kv = .inr (ci, fs)) (hq : vwCl[ci]? = some q) (hv : v = nI r) (hr : r < n) (hn : n < 2000)
    (kk : ax_V x Y ad kc ks Q N (va_up g k (.inl (Y.2.1 t, n, .inr (.inr (.inr (.inr (va_up f r (some b)))))))) (pc + 1) L st) : ax_V x Y ad kc ks Q N g pc L (.ref b :: .int v :: .ref a :: st) := by
  subst hv; subst ha; subst hb
  intro H ls locs hP hD hS hL
  refine va_astq C.exec C.bytes C.hK hP hD hS k t kv ci (by rw [ax_hw_get hk, hg]) ht (by rw [ax_hw_get hkv, hgv]) hq (vp_in_nI hr (by omega)) hd (fun H1 locs1 hP1 hD1 hS1 => ?_)
  rw [nI_clamp (by omega), ax_hw_set] at hP1 hD1
  exact kk H1 ls locs1 hP1 hD1 hS1 hL
theorem ai_ist (C : ax_C x Y i h mc ms) {k n a r : Nat} {v w : Int32} {f : Nat → Int32} (hd : decode i.2.1 pc = .ok (.iastore, 1)) (hk : k < N) (ha : ad k = a) (hg : g k = .inl (Y.2.1 0, n, .inl f)) (hv : v = nI r) (hr : r < n) (hn : n < 2000)
    (kk : ax_V x Y ad kc ks Q N (va_up g k (.inl (Y.2.1 0, n, .inl (upd f r w)))) (pc + 1) L st) : ax_V x Y ad kc ks Q N g pc L (.int w :: .int v :: .ref a :: st) := by
  subst hv; subst ha
  intro H ls locs hP hD hS hL
  refine va_iast C.exec C.bytes C.hK hP hD hS k 0 (by rw [ax_hw_get hk, hg]) rfl (vp_in_nI hr (by omega)) hd (fun H1 locs1 hP1 hD1 hS1 => ?_)
  rw [nI_clamp (by omega), ax_hw_set] at hP1 hD1
  exact kk H1 ls locs1 hP1 hD1 hS1 hL
theorem ai_getR (C : ax_C x Y i h mc ms) {k f ci a o : Nat} {fs : List Value} {fin : Bool} {ty : FieldType} (lk : ax_FL i.1.cls idx ci f fin ty) (hd : decode i.2.1 pc = .ok (.getfield idx, 3)) (hk : k < N) (ha : ad k = a) (hg : g k = .inr (ci, fs)) (hf : fs[f]? = some (.ref o)) (kk : ax_V x Y ad kc ks Q N g (pc + 3) L (.ref o :: st)) : ax_V x Y ad kc ks Q N g pc L (.ref a :: st) := by
  subst ha
  obtain ⟨q, ty0, ⟨c1, c2, c3, c4⟩, l1, l2, l3, l4⟩ := lk
  intro H ls locs hP hD hS hL
  exact va_get (Ts := ax_tb) C.exec C.bytes C.hts c2 C.own C.hK hP k (by rw [ax_hw_get hk, hg]) c1 f l1 (C.hts _ l2) (fun _ z => z) hf hd (kk H ls locs hP hD hS hL)
theorem ai_obj (C : ax_C x Y i h mc ms) {a : Nat} (hlk : Cond.methodLink i.1.cls idx objectInit ∈ ax_tb) (hd : decode i.2.1 pc = .ok (.invokespecial idx, 3)) (hh : 1 ≤ h) (hw : (rest.map fun v => v.category).sum ≤ 8) (hnL : L.length = i.2.2.1) (kk : ax_V x Y ad kc ks Q N g (pc + 3) L rest) : ax_V x Y ad kc ks Q N g pc L (.ref a :: rest) := by
  obtain ⟨q1, q2, -, -⟩ := C.room
  intro H ls locs hP hD hS hL
  refine W.objInit (g := F0 x.2.1.2.1 pc ls (.ref a :: rest)) C.exec C.bytes C.own (C.hts _ hlk) (C.hts _ ob_i) (C.hts _ ob_c) rfl (by rw [C.maxL, ← hnL]; exact hL.1) rfl hd (Nat.le_trans hh q1) ?_ (kk H ls locs hP hD hS hL)
  have q : 2 * (F0 x.2.1.2.1 pc ls (.ref a :: rest)).monitorRoom + (rest.map fun v => v.category).sum ≤ 8 := lv_room hw
  omega
theorem ai_callI (C : ax_C x Y i h mc ms) {j : ax_I} {h' mc' ms' p q : Nat} {d : va_E} (hM : ax_MI Y x.1.2.1 j h' mc' ms' p q d) (cal : ax_cal j 0) (him : Cond.instanceMethod j.1 ∈ ax_tb) (hnm : j.1.name = "<init>") (hret : j.2.2.2 = none) (lk : Cond.methodLink i.1.cls idx j.1 ∈ ax_tb) (hd : decode i.2.1 pc = .ok (.invokespecial idx, 3)) (hh : h' + 1 ≤ h) (hg : g p = d) (hw : (rest.map fun v => v.category).sum ≤ 8) (hnL : L.length = i.2.2.1) (hc : kc + mc' ≤ mc ∧ ks + ms' ≤ ms)
    (kk : ∀ ad' : Nat → Nat, (∀ k, k < p + 1 → ad' k = ad k) → ax_V x Y ad' (kc + mc') (ks + ms') Q q (gB Y ad' p g) (pc + 3) L rest) : ax_V x Y ad kc ks Q (p + 1) g pc L (.ref (ad p) :: rest) := by
  intro H ls locs hP hD hS hL
  obtain ⟨-, -, q3, q4⟩ := C.room
  have cb := ax_calB (mc' := mc') (ms' := ms') C cal lk hh
  rw [hret] at cb
  have hM' := hM ad g hg { frames := h', cells := mc', slots := ms', locals := 64 * h' } (Nat.le_refl _) (Nat.le_refl _) rfl rfl
  rw [hret] at hM'
  have hr := va_runI (As := []) (rest := rest) (g := F0 x.2.1.2.1 pc ls (.ref (ad p) :: rest)) (Ts := ax_tb) (nL := i.2.2.1) (l := x.1.2.1) (e := x.1.2.2.1) (below := x.2.2.1) (meth := x.2.2.2.1) (H := H) (locs := locs) (cells := kc) (slots := ks) ⟨C.exec, C.bytes, C.maxL, C.own, C.hts⟩ hM' ⟨cb, hnm, C.hts _ him⟩ ⟨ax_blind, fun U hU hW => ⟨rfl, ax_kx_at C hU hW hS, by rw [hU]; exact hP, hD⟩⟩ rfl rfl (hL.1.trans hnL) rfl (lv_room hw) hd ⟨by rw [q3]; exact hc.1, by rw [q4]; exact hc.2⟩
  intro T hT X
  obtain ⟨v, st₀, t, T', Lc, h0, X', hLc, e1, e2, ⟨hv, ad', hag, hP', hD', hS'⟩, hgo⟩ := hr T hT X
  cases hv
  obtain ⟨t2, a1, b1⟩ := kk ad' hag T'.heap ls (locs ++ Lc) (by rw [e1]; exact hP') hD' ⟨by rw [e1]; exact hS'.1, fun q h1 h2 => by rw [e1]; exact hS'.2.1 q h1 h2, fun q hq => by
      rcases List.mem_append.mp hq with h | h
      · exact hS.2.2 q h
      · exact hLc q h⟩ hL T' rfl X'
  exact ⟨t2, hgo t2 a1, b1⟩
theorem ai_vret (C : ax_C x Y i h mc ms) {ad0 : Nat → Nat} {g0 : Nat → va_E} {p q : Nat} (hr : i.2.2.2 = none) (hd : decode i.2.1 pc = .ok (.return_, 1)) (hag : ∀ k, k < p + 1 → ad k = ad0 k) (hg : ∀ k, k < q → g k = gB Y ad p g0 k) : ax_V x Y ad mc ms (ax_QQI x Y ad0 p q g0 mc ms) q g pc L [] := by
  refine ax_Vg hg ?_
  exact fun H ls locs hP hD hS hL => W.vret C.exec C.bytes (C.ret.trans hr) (fun t ht hW => ⟨rfl, ad, hag, by rw [ht]; exact hP, hD, by rw [ht]; exact ⟨hS.1, hS.2.1, fun _ h => by cases h⟩⟩) (fun q hq => hS.2.2 q hq) hd (hlocks := C.locks)
end AXI
