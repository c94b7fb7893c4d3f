/-! THE CLAIM OUT OF ONE WALK OF THE LAW'S BODY. Your part is whole_start (and what it stands on); all else here is the same for every law, but numbers. -/
def R_law : String := "FirstCartLaw"
def lw_P (b : Addr) (xs : List Int32) (args : Array Value) (s : State) : Prop := args = #[.ref b] ∧ s.IntsAt b xs ∧ xs.length ≤ 3072 ∧ (Jvm.Cond.and given_1 narrow_1).before args s = true
def lw_Q (_ : Array Value) (s : State) (o : Outcome) (t : State) : Prop := o = .returned (some (.int 1)) ∧ Framed s o t [] 600000 7302250
def lw_Z (below : List Frame) (a : Array Value) (s : State) : State → Prop := fun t => ∃ o, t.status = .running ∧ Ended t below o ∧ lw_Q a s o t
/-- the law's own end, with 1 on the stack, nothing written that was there before, its room as the claim has it -/
theorem lw_ret {p : Program} {l : Launch} {e : Env} {s : State} {m : MethodId} {below : List Frame} {meth : Method} {c : Code} {b : Nat} (hx : p.tables.exec = Jvm.exec) (hb : c.code = code) (hr : meth.sig.returnType = ret) (hlocks : meth.locks = false) {pc : Nat} {H : Heap} {ls : Array Slot} (hdg : decode code pc = .ok (.ireturn, 1)) : W p l e room_1 s m #[Value.ref b] below meth c H [] 600000 7302250 (lw_Z below #[Value.ref b] s) (F0 m pc ls [.int 1]) := by
  intro T hT X
  obtain ⟨fs, hret, hrun, hended, hW, hframe⟩ := X.leave (v := some (.int 1)) (hlocks := hlocks) (fun h => by rw [hr] at h; cases h)
  have hmeth' : T.vm.method? m = some meth := X.method'
  refine ⟨T.setFrames fs, ?_, .returned (some (.int 1)), hrun, hended, rfl, ⟨_, rfl⟩, hW, hframe⟩
  jvm_step X.here [X.here.top, hx, hb, hdg, hmeth', hr, ret, narrow_b1]
  (try refine ⟨rfl, ?_⟩); (try refine ⟨rfl, ?_⟩)
  first | (intro acts; rw [hret _ acts rfl rfl rfl]) | rw [hret _ _ rfl rfl rfl]
  exact Steps.refl _
/-- what holds at the law's entry: the machine, the code, the tables' words (any of lw_tbl by 'hts w (by decide +kernel)'), the script of L ints xs at the cell b, what the Statement gives of the start (any of its parts by flat_of_before) -/
def lw_At (p : Program) (s : State) (m : MethodId) (meth : Method) (c : Code) (b L : Nat) (xs : Nat → Int32) : Prop :=
  p.tables.exec = Jvm.exec ∧ c.code = code ∧ meth.sig.returnType = ret ∧ c.maxLocals = 4 ∧ s.vm.findClass R_law = some m.cls ∧ (∀ w ∈ lw_tbl, w.before #[Value.ref b] s = true) ∧ va_X b L xs s s.heap ∧ b < s.heap.size ∧ meth.locks = false ∧ (Jvm.Cond.and given_1 narrow_1).before #[Value.ref b] s = true
abbrev iL : ax_I := (yL_law, cL_law, 4, some .boolean)
theorem RR_0 : RR ax_i0 := by
  have z : ∀ a b, a ≠ 78 → ax_i0 a b = 0 := fun a b h => by rw [ax_i0_0 h]
  have wf : ∀ f : Nat → Int32, (∀ j, f j = 0) → WF f 0 0 := fun f h => ⟨h 0, by decide, h 1, by decide, fun t _ => ⟨0, by decide, h _⟩, fun c hc => absurd hc (Nat.not_lt_zero c)⟩
  have xp : ∀ (p : Nat) (f : Nat → Int32), p < 70 → (∀ j, f j = 0) → XP ax_i0 p f 0 := fun p f hp h => ⟨by rw [z _ _ (by omega), h], by rw [z _ _ (by omega), h], fun t _ => by rw [z _ _ (by omega), h], fun c k hc _ => absurd hc (Nat.not_lt_zero c), fun c _ => z _ _ (by omega)⟩
  have i81 : ∀ j, ax_i0 81 j = 0 := fun j => z 81 j (by decide)
  have ri : ∀ k, k < 2 → rI ax_i0 k := fun k hk => ⟨0, 0, wf _ (fun j => z 94 _ (by decide)), xp _ _ (by omega) (fun j => z 94 _ (by decide)), by rw [z _ _ (by omega), z 93 _ (by decide)], Or.inl (z 93 _ (by decide))⟩
  refine ⟨⟨0, 0, 0, ⟨wf _ i81, xp 14 _ (by decide) i81, by rw [z 14 _ (by decide), z 77 _ (by decide)], Or.inl (z 77 _ (by decide))⟩, ⟨z 25 _ (by decide), z 77 _ (by decide), by decide, fun i hi => absurd hi (Nat.not_lt_zero i)⟩⟩, ⟨ri 0 (by decide), ri 1 (by decide)⟩, fun r hr => ⟨Or.inl ⟨z _ _ (by omega), if_pos ⟨rfl, hr⟩⟩, by rw [z _ _ (by omega), z 79 _ (by decide)], ⟨0, by decide, z 79 _ (by decide)⟩, fun i _ => by rw [z _ _ (by omega), z 80 _ (by decide)]⟩, ⟨0, z 2 _ (by decide), z 77 _ (by decide), by decide, fun i hi => absurd hi (Nat.not_lt_zero i)⟩, ⟨by rw [z 0 _ (by decide), z 77 _ (by decide)], by rw [z 0 _ (by decide), z 77 _ (by decide)]⟩, ⟨0, by decide, z 39 _ (by decide), z 77 _ (by decide), fun i hi => absurd hi (Nat.not_lt_zero i)⟩, fun c _ => z 12 _ (by decide)⟩
section AXS
variable {x : ax_T} {Y : ax_Y} {ad : Nat → Nat} {i : ax_I} {h mc ms kc ks N pc : Nat} {Q : State → Prop} {g : Nat → va_E} {L : List (Option Value)} {st : List Value}
theorem ax_sld (C : ax_C x Y i h mc ms) {b Ls k : Nat} {xs : Nat → Int32} (hX : va_X b Ls xs x.2.1.1 Y.2.2.heap) (hb : b < Y.2.2.heap.size) (h3 : Ls ≤ 3072) (hd : decode i.2.1 pc = .ok (.iaload, 1)) (hk : k < Ls) (kk : ax_V x Y ad kc ks Q N g (pc + 1) L (.int (xs k) :: st)) : ax_V x Y ad kc ks Q N g pc L (.int (nI k) :: .ref b :: st) :=
  fun H ls locs hP hD hS hL => va_sld C.exec C.bytes hX hb (Nat.not_le.mpr hb) hS (vp_in_nI hk (by omega)) hd (by rw [nI_clamp (by omega)]; exact kk H ls locs hP hD hS hL)
theorem ax_slen (C : ax_C x Y i h mc ms) {b Ls : Nat} {xs : Nat → Int32} (hX : va_X b Ls xs x.2.1.1 Y.2.2.heap) (hb : b < Y.2.2.heap.size) (hd : decode i.2.1 pc = .ok (.arraylength, 1)) (kk : ax_V x Y ad kc ks Q N g (pc + 1) L (.int (nI Ls) :: st)) : ax_V x Y ad kc ks Q N g pc L (.ref b :: st) :=
  fun H ls locs hP hD hS hL => va_slen C.exec C.bytes hX hb (Nat.not_le.mpr hb) hS hd (kk H ls locs hP hD hS hL)
end AXS
