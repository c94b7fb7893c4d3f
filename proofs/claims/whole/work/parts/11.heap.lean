/-! CONTRACTS, CALLS, and the heap's rows -/
/-- the machine's start and end of a method -/
def ax_Pc (Y : ax_Y) (ad : Nat → Nat) (N : Nat) (g : Nat → va_E) (av : List Value) : Array Value → State → Prop := fun v U => v = av.toArray ∧ ax_Kx Y U ∧ va_P Y.1 vwCl (ax_hw ad N g) U.heap ∧ va_D (ax_A Y) (ax_hw ad N g)
def ax_Qc (Y : ax_Y) (ad : Nat → Nat) (r : Option Value) (N : Nat) (g : Nat → va_E) : Array Value → State → Outcome → State → Prop := fun _ _ o t => o = .returned r ∧ va_P Y.1 vwCl (ax_hw ad N g) t.heap ∧ va_S (ax_A Y) Y.2.2.heap t.heap []
def ax_M (Y : ax_Y) (ad : Nat → Nat) (l : Launch) (j : ax_I) (h mc ms N : Nat) (g : Nat → va_E) (av : List Value) (r : Option Value) (g' : Nat → va_E) : Prop :=
  ∀ rm : Room, h ≤ rm.frames → 64 * h ≤ rm.locals → rm.cells = mc → rm.slots = ms → Met l j.1 [.code j.1 j.2.1 j.2.2.1 j.2.2.2] rm (ax_Pc Y ad N g av) (ax_Qc Y ad r N g') mc ms (ax_A Y)
abbrev ax_Q (x : ax_T) (Y : ax_Y) (ad : Nat → Nat) (r : Option Value) (N : Nat) (g' : Nat → va_E) (mc ms : Nat) : State → Prop := MQ x.2.2.1 (ax_Qc Y ad r N g') x.2.1.2.2 x.2.1.1 mc ms (ax_A Y)
def ax_la : List Value → List (Option Value)
  | [] => []
  | v :: vs => if v.category = 2 then some v :: none :: ax_la vs else some v :: ax_la vs
def ax_Lav (n : Nat) (av : List Value) : List (Option Value) := ax_la av ++ List.replicate (n - (ax_la av).length) none
theorem ax_la_len (av : List Value) : (ax_la av).length = (lg_sl av).length := by
  induction av with
  | nil => rfl
  | cons v vs ih =>
    have e : lg_sl (v :: vs) = (if v.category = 2 then [.val v, .second] else [.val v]) ++ lg_sl vs := by simp [lg_sl]
    rw [e]
    unfold ax_la
    split <;> simp [ih] <;> omega
theorem ax_la_mem (av : List Value) : ∀ (o i : Nat) (v : Value), (ax_la av)[i]? = some (some v) → (o + i, v) ∈ lv_args o av := by
  induction av with
  | nil => intro o i v h; simp [ax_la] at h
  | cons w vs ih =>
    intro o i v h
    unfold ax_la at h
    unfold lv_args
    split at h
    · next hc =>
      rw [if_pos hc]
      match i, h with
      | 0, h => simp at h; subst h; exact List.mem_cons_self
      | 1, h => simp at h
      | n + 2, h =>
        have := ih (o + 2) n v (by simpa using h)
        rw [show o + (n + 2) = o + 2 + n by omega]
        exact List.mem_cons_of_mem _ this
    · next hc =>
      rw [if_neg hc]
      match i, h with
      | 0, h => simp at h; subst h; exact List.mem_cons_self
      | n + 1, h =>
        have := ih (o + 1) n v (by simpa using h)
        rw [show o + (n + 1) = o + 1 + n by omega]
        exact List.mem_cons_of_mem _ this
theorem ax_entry {n : Nat} {av : List Value} (hn : (lg_sl av).length ≤ n) : ax_L ((lg_sl av ++ List.replicate (n - (lg_sl av).length) Slot.unset).toArray) (ax_Lav n av) := by
  obtain ⟨h1, h2, h3⟩ := lv_entry av hn
  refine ⟨?_, h2, fun i v hv => ?_⟩
  · rw [h1]
    simp only [ax_Lav, List.length_append, List.length_replicate, ax_la_len]
    omega
  · have hm : (0 + i, v) ∈ lv_args 0 av := by
      refine ax_la_mem av 0 i v ?_
      unfold ax_Lav at hv
      by_cases hl : i < (ax_la av).length
      · rwa [List.getElem?_append_left hl] at hv
      · rw [List.getElem?_append_right (by omega)] at hv
        have := List.mem_of_getElem? hv
        simp at this
    rw [Nat.zero_add] at hm
    exact h3 (i, v) hm
/-- a method that can be called: its words -/
def ax_cal (j : ax_I) (n : Nat) : Prop := Cond.code j.1 j.2.1 j.2.2.1 j.2.2.2 ∈ ax_tb ∧ Cond.initialized j.1.cls ∈ ax_tb ∧ (j.1.cls ≠ "java/lang/invoke/MethodHandle" ∧ j.1.cls ≠ "java/lang/invoke/VarHandle") ∧ (parseMethodDescriptor j.1.desc).map (fun d => d.parameters.length) = some n ∧ j.2.2.1 ≤ 45 ∧ plainName j.1.cls = true
def ax_calS (j : ax_I) (n : Nat) : Prop := ax_cal j n ∧ Cond.static j.1 ∈ ax_tb
def ax_calV (j : ax_I) (n : Nat) : Prop := ax_cal j n ∧ Cond.instanceMethod j.1 ∈ ax_tb ∧ Cond.selects j.1.cls j.1 j.1 ∈ ax_tb
theorem ax_M.of {Y : ax_Y} {ad : Nat → Nat} {l : Launch} {j : ax_I} {h mc ms N n : Nat} {g g' : Nat → va_E} {av : List Value} {r : Option Value} (F : ax_F Y) (cal : ax_cal j n) (L0 : List (Option Value)) (hL0 : ax_Lav j.2.2.1 av = L0) (hlen : (lg_sl av).length ≤ j.2.2.1)
    (body : ∀ x : ax_T, ax_C x Y j h mc ms → ax_V x Y ad 0 0 (ax_Q x Y ad r N g' mc ms) N g 0 L0 []) : ax_M Y ad l j h mc ms N g av r g' := by
  intro rm r1 r2 r3 r4
  refine Met.ofW (cc := j.2.1) (maxL := j.2.2.1) (ret := j.2.2.2) cal.2.2.2.2.2 rfl ?_
  intro p e s m args below meth c s₁ B hml hv
  obtain ⟨rfl, hkx, hP, hD⟩ := hv
  rw [lg_entry_eq]
  obtain ⟨b, f1, f2, f3⟩ := id F
  refine body ((p, l, e, rm), (s, m, av.toArray), (below, meth, c)) ⟨B.exec, B.bytes, hml, findClass_of_methodNamed B.named, ax_word F hkx.1 _, va_K.moved hkx.1.alike f2, B.returns, B.notSynchronized, ⟨r1, r2, r3, r4⟩, hkx, F, fun e => ?_⟩ s.heap _ [] hP hD hkx.2 (hL0 ▸ ax_entry hlen)
  exact (name_of_methodNamed B.named B.method).1.trans e
theorem ax_back {x : ax_T} {Y : ax_Y} {ad : Nat → Nat} {kc ks mc' ms' N pc : Nat} {Q : State → Prop} {g' : Nat → va_E} {H : Heap} {ls : Array Slot} {locs : List Loc} {st rest : List Value} {r : Option Value} {a : Array Value}
    (hr : va_Run x.1.1 x.1.2.1 x.1.2.2.1 x.1.2.2.2 x.2.1.1 x.2.1.2.1 x.2.1.2.2 x.2.2.1 x.2.2.2.1 x.2.2.2.2 H locs kc ks mc' ms' (F0 x.2.1.2.1 pc ls st) rest (ax_Qc Y ad r N g' a) (ax_A Y)) (hS : va_S (ax_A Y) Y.2.2.heap H locs)
    (kk : ∀ (H1 : Heap) (locs1 : List Loc), va_P Y.1 vwCl (ax_hw ad N g') H1 → va_S (ax_A Y) Y.2.2.heap H1 locs1 → ax_W x H1 locs1 (kc + mc') (ks + ms') Q (F0 x.2.1.2.1 (pc + 3) ls (r.toList ++ rest))) : ax_W x H locs kc ks Q (F0 x.2.1.2.1 pc ls st) := by
  intro T hT X
  obtain ⟨v, st₀, t, T', Lc, h0, X', hL, e1, e2, ⟨hv, hP', hS'⟩, hg⟩ := hr T hT X
  cases hv
  obtain ⟨t2, a1, b1⟩ := kk T'.heap (locs ++ Lc) (by rw [e1]; exact hP') ⟨by rw [e1]; exact hS'.1, fun q h1 h2 => by rw [e1]; exact hS'.2.1 q h1 h2, fun q hq => by
      rcases List.mem_append.mp hq with h | h
      · exact hS.2.2 q h
      · exact hL q h⟩ T' rfl X'
  exact ⟨t2, hg t2 a1, b1⟩
section AXC
variable {x : ax_T} {Y : ax_Y} {ad : Nat → Nat} {i : ax_I} {h mc ms kc ks N pc : Nat} {Q : State → Prop} {g g' : Nat → va_E} {L : List (Option Value)} {st rest av : List Value} {j : ax_I} {h' mc' ms' idx n : Nat} {r : Option Value}
theorem ax_kx_at (C : ax_C x Y i h mc ms) {U : State} {H : Heap} {locs : List Loc} (hU : U.heap = H) (hW : x.2.1.1.WarmedH U.vm) (hS : va_S (ax_A Y) Y.2.2.heap H locs) : ax_Kx Y U :=
  ⟨State.WarmedH.trans C.kx.1 hW, by rw [hU]; exact ⟨hS.1, hS.2.1, fun _ h => by cases h⟩⟩
theorem ax_blind : FrameBlind (ax_Pc Y ad N g av) := fun _ _ _ _ q => q
theorem ax_calB (C : ax_C x Y i h mc ms) (cal : ax_cal j n) (lk : Cond.methodLink i.1.cls idx j.1 ∈ ax_tb) (hh : h' + 1 ≤ h) :
    CallB x.1.2.2.2 x.2.1.1 x.2.1.2.2 i.1.cls idx j.1 j.2.1 j.2.2.1 j.2.2.2 [.code j.1 j.2.1 j.2.2.1 j.2.2.2] { frames := h', cells := mc', slots := ms', locals := 64 * h' } mc' ms' n := by
  obtain ⟨c1, c2, c3, c4, c5, c6⟩ := cal
  obtain ⟨q1, q2, -, -⟩ := C.room
  refine ⟨rfl, rfl, Nat.le_trans hh q1, ?_, fun w hw a' U hW => ?_, List.mem_cons_self, C.hts _ c1, C.hts _ c2, c3, fun sig hs => ?_, C.hts _ lk⟩
  · show 8 + (j.2.2.1 + 11) + 64 * h' ≤ _
    omega
  · rw [List.mem_singleton.mp hw]
    exact ax_word C.F (State.WarmedH.trans C.kx.1 hW) a' _ c1
  · rw [hs] at c4
    exact (Option.some.inj c4).symm
theorem ax_callSg (C : ax_C x Y i h mc ms) (hM : ax_M Y ad x.1.2.1 j h' mc' ms' N g av r g') (cal : ax_calS j n) (lk : Cond.methodLink i.1.cls idx j.1 ∈ ax_tb) (hh : h' + 1 ≤ h) (hst : st = av.reverse ++ rest) (hn : av.length = n) (hw : (rest.map fun v => v.category).sum ≤ 8) (hnL : L.length = i.2.2.1) (hd : decode i.2.1 pc = .ok (.invokestatic idx, 3)) (hc : kc + mc' ≤ mc ∧ ks + ms' ≤ ms)
    (kk : ax_V x Y ad (kc + mc') (ks + ms') Q N g' (pc + 3) L (r.toList ++ rest)) : ax_V x Y ad kc ks Q N g pc L st := by
  intro H ls locs hP hD hS hL
  obtain ⟨-, -, q3, q4⟩ := C.room
  subst hst
  refine ax_back (va_runS (As := av) (rest := rest) (Ts := ax_tb) (nL := i.2.2.1) ⟨C.exec, C.bytes, C.maxL, C.own, C.hts⟩ (hM _ (Nat.le_refl _) (Nat.le_refl _) rfl rfl) ⟨ax_calB C cal.1 lk hh, C.hts _ cal.2⟩ ⟨ax_blind, fun U hU hW => ⟨rfl, ax_kx_at C hU hW hS, by rw [hU]; exact hP, hD⟩⟩ rfl hn (hL.1.trans hnL) rfl (lv_room hw) hd ⟨by rw [q3]; exact hc.1, by rw [q4]; exact hc.2⟩) hS (fun H1 locs1 hP1 hS1 => kk H1 ls locs1 hP1 (ax_D_any hD) hS1 hL)
theorem ax_callVg (C : ax_C x Y i h mc ms) {k : Nat} {fs : List Value} {ci : Nat} {q : vw_C} {avs : List Value} (hav : av = .ref (ad k) :: avs) (hk : k < N) (hg : g k = .inr (ci, fs)) (hq : vwCl[ci]? = some q) (hqc : q.1 = j.1.cls) (hM : ax_M Y ad x.1.2.1 j h' mc' ms' N g av r g') (cal : ax_calV j n) (lk : Cond.methodLink i.1.cls idx j.1 ∈ ax_tb) (hh : h' + 1 ≤ h) (hst : st = avs.reverse ++ .ref (ad k) :: rest) (hn : avs.length = n) (hw : (rest.map fun v => v.category).sum ≤ 8) (hnL : L.length = i.2.2.1) (hd : decode i.2.1 pc = .ok (.invokevirtual idx, 3)) (hc : kc + mc' ≤ mc ∧ ks + ms' ≤ ms)
    (kk : ax_V x Y ad (kc + mc') (ks + ms') Q N g' (pc + 3) L (r.toList ++ rest)) : ax_V x Y ad kc ks Q N g pc L st := by
  intro H ls locs hP hD hS hL
  obtain ⟨-, -, q3, q4⟩ := C.room
  subst hst; subst hav
  have he : (ax_hw ad N g)[k]? = some (ad k, .inr (ci, fs)) := by rw [ax_hw_get hk, hg]
  have hrc := va_recv C.hK hP hq he
  rw [hqc] at hrc
  refine ax_back (va_runV (As := avs) (rest := rest) (Ts := ax_tb) (nL := i.2.2.1) ⟨C.exec, C.bytes, C.maxL, C.own, C.hts⟩ (hM _ (Nat.le_refl _) (Nat.le_refl _) rfl rfl) ⟨ax_calB C cal.1 lk hh, C.hts _ cal.2.1, C.hts _ cal.2.2⟩ ⟨ax_blind, hrc, fun U hU hW => ⟨rfl, ax_kx_at C hU hW hS, by rw [hU]; exact hP, hD⟩⟩ rfl hn (hL.1.trans hnL) rfl (lv_room hw) hd ⟨by rw [q3]; exact hc.1, by rw [q4]; exact hc.2⟩) hS (fun H1 locs1 hP1 hS1 => kk H1 ls locs1 hP1 (ax_D_any hD) hS1 hL)
/-- a private static method of the nest's host -/
theorem ax_callNg (C : ax_C x Y i h mc ms) {host : String} (hM : ax_M Y ad x.1.2.1 j h' mc' ms' N g av r g') (cal : ax_calS j n) (lk : Cond.methodLinkNest i.1.cls idx j.1 host ∈ lw_tbl) (hh : h' + 1 ≤ h) (hst : st = av.reverse ++ rest) (hn : av.length = n) (hw : (rest.map fun v => v.category).sum ≤ 8) (hnL : L.length = i.2.2.1) (hd : decode i.2.1 pc = .ok (.invokestatic idx, 3)) (hc : kc + mc' ≤ mc ∧ ks + ms' ≤ ms)
    (kk : ax_V x Y ad (kc + mc') (ks + ms') Q N g' (pc + 3) L (r.toList ++ rest)) : ax_V x Y ad kc ks Q N g pc L st := by
  intro H ls locs hP hD hS hL
  obtain ⟨q1, q2, q3, q4⟩ := C.room
  subst hst
  obtain ⟨c1, c2, c3, c4, c5, c6⟩ := cal.1
  obtain ⟨b, f1, f2, f3⟩ := id C.F
  have hnw : (Cond.methodLinkNest i.1.cls idx j.1 host).before x.2.1.2.2 x.2.1.1 = true := va_Nw.use rfl (va_Nw.warmM C.kx.1 (va_Nw.of rfl (f1 _ lk)))
  refine ax_back (va_runSN (As := av) (rest := rest) (Ts := ax_tb) (nL := i.2.2.1) ⟨C.exec, C.bytes, C.maxL, C.own, C.hts⟩ (hM { frames := h', cells := mc', slots := ms', locals := 64 * h' } (Nat.le_refl _) (Nat.le_refl _) rfl rfl) ⟨⟨⟨rfl, rfl, Nat.le_trans hh q1, ?_, fun w hw a' U hW => ?_, List.mem_cons_self⟩, C.hts _ c1, C.hts _ c2, c3, fun sig hs => ?_, hnw⟩, C.hts _ cal.2, trivial⟩ ⟨ax_blind, fun U hU hW => ⟨rfl, ax_kx_at C hU hW hS, by rw [hU]; exact hP, hD⟩⟩ rfl hn (hL.1.trans hnL) rfl (lv_room hw) hd ⟨by rw [q3]; exact hc.1, by rw [q4]; exact hc.2⟩) hS (fun H1 locs1 hP1 hS1 => kk H1 ls locs1 hP1 (ax_D_any hD) hS1 hL)
  · show 8 + (j.2.2.1 + 11) + 64 * h' ≤ _
    omega
  · rw [List.mem_singleton.mp hw]
    exact ax_word C.F (State.WarmedH.trans C.kx.1 hW) a' _ c1
  · rw [hs] at c4
    exact (Option.some.inj c4).symm
/-! the ends -/
theorem ax_iret (C : ax_C x Y i h mc ms) {v : Int32} (hr : i.2.2.2 = some .int) (hd : decode i.2.1 pc = .ok (.ireturn, 1)) (e1 : r = some (.int v)) (e2 : g' = g) (e3 : kc = mc) (e4 : ks = ms) : ax_V x Y ad kc ks (ax_Q x Y ad r N g' mc ms) N g pc L [.int v] := by
  subst e1; subst e2; subst e3; subst e4
  exact fun H ls locs hP hD hS hL => W.iret C.exec C.bytes (C.ret.trans hr) (fun t ht hW => ⟨rfl, by rw [ht]; exact hP, by rw [ht]; exact ⟨hS.1, hS.2.1, fun _ h => by cases h⟩⟩) (fun q hq => hS.2.2 q hq) hd (hlocks := C.locks)
theorem ax_zret (C : ax_C x Y i h mc ms) {v : Int32} {ty : FieldType} (hr : i.2.2.2 = some ty) (hn : narrow ty (.int v) = .int v) (hd : decode i.2.1 pc = .ok (.ireturn, 1)) (e1 : r = some (.int v)) (e2 : g' = g) (e3 : kc = mc) (e4 : ks = ms) : ax_V x Y ad kc ks (ax_Q x Y ad r N g' mc ms) N g pc L [.int v] := by
  subst e1; subst e2; subst e3; subst e4
  exact fun H ls locs hP hD hS hL => W.zret C.exec C.bytes (C.ret.trans hr) hn (fun t ht hW => ⟨rfl, by rw [ht]; exact hP, by rw [ht]; exact ⟨hS.1, hS.2.1, fun _ h => by cases h⟩⟩) (fun q hq => hS.2.2 q hq) hd (hlocks := C.locks)
theorem ax_lret (C : ax_C x Y i h mc ms) {v : Int64} (hr : i.2.2.2 = some .long) (hd : decode i.2.1 pc = .ok (.lreturn, 1)) (e1 : r = some (.long v)) (e2 : g' = g) (e3 : kc = mc) (e4 : ks = ms) : ax_V x Y ad kc ks (ax_Q x Y ad r N g' mc ms) N g pc L [.long v] := by
  subst e1; subst e2; subst e3; subst e4
  exact fun H ls locs hP hD hS hL => W.lret C.exec C.bytes (C.ret.trans hr) (fun t ht hW => ⟨rfl, by rw [ht]; exact hP, by rw [ht]; exact ⟨hS.1, hS.2.1, fun _ h => by cases h⟩⟩) (fun q hq => hS.2.2 q hq) hd (hlocks := C.locks)
theorem ax_vret (C : ax_C x Y i h mc ms) (hr : i.2.2.2 = none) (hd : decode i.2.1 pc = .ok (.return_, 1)) (e1 : r = none) (e2 : g' = g) (e3 : kc = mc) (e4 : ks = ms) : ax_V x Y ad kc ks (ax_Q x Y ad r N g' mc ms) N g pc L [] := by
  subst e1; subst e2; subst e3; subst e4
  exact fun H ls locs hP hD hS hL => W.vret C.exec C.bytes (C.ret.trans hr) (fun t ht hW => ⟨rfl, by rw [ht]; exact hP, by rw [ht]; exact ⟨hS.1, hS.2.1, fun _ h => by cases h⟩⟩) (fun q hq => hS.2.2 q hq) hd (hlocks := C.locks)
end AXC
