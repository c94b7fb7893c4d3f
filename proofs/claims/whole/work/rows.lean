section
-- ===== PART A: goes FIRST, ahead of the names: the tables' words, and 'selects' of the private methods out of them =====
/-- a private method of a class that the tables say can be made, by its rows of tables_1 -/
def lw_okq (q : MethodName × Nat) : Prop := (q.1.cls ≠ "java/lang/invoke/MethodHandle" ∧ q.1.cls ≠ "java/lang/invoke/VarHandle") ∧ Cond.instantiable q.1.cls q.2 ∈ tables_1 ∧ Cond.privateMethod q.1 ∈ tables_1 ∧ Cond.instanceMethod q.1 ∈ tables_1
theorem lw_p0 : lw_okq (⟨"FirstCart", "found", "(I)I"⟩, 9) := ⟨⟨by decide +kernel, by decide +kernel⟩, List.mem_of_getElem? (i := 18) (by decide +kernel), List.mem_of_getElem? (i := 249) (by decide +kernel), List.mem_of_getElem? (i := 250) (by decide +kernel)⟩
theorem lw_p1 : lw_okq (⟨"FirstCart", "isCart", "(I)Z"⟩, 9) := ⟨⟨by decide +kernel, by decide +kernel⟩, List.mem_of_getElem? (i := 18) (by decide +kernel), List.mem_of_getElem? (i := 481) (by decide +kernel), List.mem_of_getElem? (i := 482) (by decide +kernel)⟩
theorem lw_p2 : lw_okq (⟨"FirstCart$Asks", "answer", "(LFirstCart$Pass;III)I"⟩, 2) := ⟨⟨by decide +kernel, by decide +kernel⟩, List.mem_of_getElem? (i := 173) (by decide +kernel), List.mem_of_getElem? (i := 648) (by decide +kernel), List.mem_of_getElem? (i := 649) (by decide +kernel)⟩
theorem lw_p3 : lw_okq (⟨"FirstCart", "rowsThere", "()I"⟩, 9) := ⟨⟨by decide +kernel, by decide +kernel⟩, List.mem_of_getElem? (i := 18) (by decide +kernel), List.mem_of_getElem? (i := 662) (by decide +kernel), List.mem_of_getElem? (i := 663) (by decide +kernel)⟩
theorem lw_p4 : lw_okq (⟨"FirstCartModel", "finding", "(I)I"⟩, 35) := ⟨⟨by decide +kernel, by decide +kernel⟩, List.mem_of_getElem? (i := 678) (by decide +kernel), List.mem_of_getElem? (i := 804) (by decide +kernel), List.mem_of_getElem? (i := 805) (by decide +kernel)⟩
theorem lw_p5 : lw_okq (⟨"FirstCartModel", "begin", "()V"⟩, 35) := ⟨⟨by decide +kernel, by decide +kernel⟩, List.mem_of_getElem? (i := 678) (by decide +kernel), List.mem_of_getElem? (i := 832) (by decide +kernel), List.mem_of_getElem? (i := 833) (by decide +kernel)⟩
theorem lw_p6 : lw_okq (⟨"FirstCartModel", "next", "()V"⟩, 35) := ⟨⟨by decide +kernel, by decide +kernel⟩, List.mem_of_getElem? (i := 678) (by decide +kernel), List.mem_of_getElem? (i := 836) (by decide +kernel), List.mem_of_getElem? (i := 837) (by decide +kernel)⟩
theorem lw_p7 : lw_okq (⟨"FirstCartModel", "byteAt", "(I)I"⟩, 35) := ⟨⟨by decide +kernel, by decide +kernel⟩, List.mem_of_getElem? (i := 678) (by decide +kernel), List.mem_of_getElem? (i := 840) (by decide +kernel), List.mem_of_getElem? (i := 841) (by decide +kernel)⟩
theorem lw_p8 : lw_okq (⟨"FirstCartModel", "readToll", "()V"⟩, 35) := ⟨⟨by decide +kernel, by decide +kernel⟩, List.mem_of_getElem? (i := 678) (by decide +kernel), List.mem_of_getElem? (i := 851) (by decide +kernel), List.mem_of_getElem? (i := 852) (by decide +kernel)⟩
theorem lw_p9 : lw_okq (⟨"FirstCartModel", "name", "()J"⟩, 35) := ⟨⟨by decide +kernel, by decide +kernel⟩, List.mem_of_getElem? (i := 678) (by decide +kernel), List.mem_of_getElem? (i := 855) (by decide +kernel), List.mem_of_getElem? (i := 856) (by decide +kernel)⟩
theorem lw_p10 : lw_okq (⟨"FirstCartModel", "must", "(Z)V"⟩, 35) := ⟨⟨by decide +kernel, by decide +kernel⟩, List.mem_of_getElem? (i := 678) (by decide +kernel), List.mem_of_getElem? (i := 860) (by decide +kernel), List.mem_of_getElem? (i := 861) (by decide +kernel)⟩
theorem lw_p11 : lw_okq (⟨"FirstCartModel", "bad", "(I)V"⟩, 35) := ⟨⟨by decide +kernel, by decide +kernel⟩, List.mem_of_getElem? (i := 678) (by decide +kernel), List.mem_of_getElem? (i := 864) (by decide +kernel), List.mem_of_getElem? (i := 865) (by decide +kernel)⟩
theorem lw_p12 : lw_okq (⟨"FirstCartModel", "number", "(II)I"⟩, 35) := ⟨⟨by decide +kernel, by decide +kernel⟩, List.mem_of_getElem? (i := 678) (by decide +kernel), List.mem_of_getElem? (i := 868) (by decide +kernel), List.mem_of_getElem? (i := 869) (by decide +kernel)⟩
theorem lw_p13 : lw_okq (⟨"FirstCartModel", "figures", "()I"⟩, 35) := ⟨⟨by decide +kernel, by decide +kernel⟩, List.mem_of_getElem? (i := 678) (by decide +kernel), List.mem_of_getElem? (i := 872) (by decide +kernel), List.mem_of_getElem? (i := 873) (by decide +kernel)⟩
theorem lw_p14 : lw_okq (⟨"FirstCartModel", "mustEnd", "()V"⟩, 35) := ⟨⟨by decide +kernel, by decide +kernel⟩, List.mem_of_getElem? (i := 678) (by decide +kernel), List.mem_of_getElem? (i := 876) (by decide +kernel), List.mem_of_getElem? (i := 877) (by decide +kernel)⟩
theorem lw_p15 : lw_okq (⟨"FirstCartModel", "readCart", "()V"⟩, 35) := ⟨⟨by decide +kernel, by decide +kernel⟩, List.mem_of_getElem? (i := 678) (by decide +kernel), List.mem_of_getElem? (i := 881) (by decide +kernel), List.mem_of_getElem? (i := 882) (by decide +kernel)⟩
def lw_privs_1 : List (MethodName × Nat) := [(⟨"FirstCart", "found", "(I)I"⟩, 9), (⟨"FirstCart", "isCart", "(I)Z"⟩, 9), (⟨"FirstCart$Asks", "answer", "(LFirstCart$Pass;III)I"⟩, 2), (⟨"FirstCart", "rowsThere", "()I"⟩, 9), (⟨"FirstCartModel", "finding", "(I)I"⟩, 35), (⟨"FirstCartModel", "begin", "()V"⟩, 35), (⟨"FirstCartModel", "next", "()V"⟩, 35), (⟨"FirstCartModel", "byteAt", "(I)I"⟩, 35), (⟨"FirstCartModel", "readToll", "()V"⟩, 35), (⟨"FirstCartModel", "name", "()J"⟩, 35), (⟨"FirstCartModel", "must", "(Z)V"⟩, 35), (⟨"FirstCartModel", "bad", "(I)V"⟩, 35), (⟨"FirstCartModel", "number", "(II)I"⟩, 35), (⟨"FirstCartModel", "figures", "()I"⟩, 35), (⟨"FirstCartModel", "mustEnd", "()V"⟩, 35), (⟨"FirstCartModel", "readCart", "()V"⟩, 35)]
theorem lw_r1 : ∀ q ∈ lw_privs_1, lw_okq q := List.forall_mem_cons.mpr ⟨lw_p0, List.forall_mem_cons.mpr ⟨lw_p1, List.forall_mem_cons.mpr ⟨lw_p2, List.forall_mem_cons.mpr ⟨lw_p3, List.forall_mem_cons.mpr ⟨lw_p4, List.forall_mem_cons.mpr ⟨lw_p5, List.forall_mem_cons.mpr ⟨lw_p6, List.forall_mem_cons.mpr ⟨lw_p7, List.forall_mem_cons.mpr ⟨lw_p8, List.forall_mem_cons.mpr ⟨lw_p9, List.forall_mem_cons.mpr ⟨lw_p10, List.forall_mem_cons.mpr ⟨lw_p11, List.forall_mem_cons.mpr ⟨lw_p12, List.forall_mem_cons.mpr ⟨lw_p13, List.forall_mem_cons.mpr ⟨lw_p14, List.forall_mem_cons.mpr ⟨lw_p15, fun _ h => absurd h List.not_mem_nil⟩⟩⟩⟩⟩⟩⟩⟩⟩⟩⟩⟩⟩⟩⟩⟩
theorem lw_p16 : lw_okq (⟨"FirstCartModel", "keep", "()V"⟩, 35) := ⟨⟨by decide +kernel, by decide +kernel⟩, List.mem_of_getElem? (i := 678) (by decide +kernel), List.mem_of_getElem? (i := 903) (by decide +kernel), List.mem_of_getElem? (i := 904) (by decide +kernel)⟩
theorem lw_p17 : lw_okq (⟨"FirstCartModel", "layNow", "()V"⟩, 35) := ⟨⟨by decide +kernel, by decide +kernel⟩, List.mem_of_getElem? (i := 678) (by decide +kernel), List.mem_of_getElem? (i := 907) (by decide +kernel), List.mem_of_getElem? (i := 908) (by decide +kernel)⟩
theorem lw_p18 : lw_okq (⟨"FirstCartModel", "of", "(II)I"⟩, 35) := ⟨⟨by decide +kernel, by decide +kernel⟩, List.mem_of_getElem? (i := 678) (by decide +kernel), List.mem_of_getElem? (i := 911) (by decide +kernel), List.mem_of_getElem? (i := 912) (by decide +kernel)⟩
theorem lw_p19 : lw_okq (⟨"FirstCartModel", "goHour", "(I)I"⟩, 35) := ⟨⟨by decide +kernel, by decide +kernel⟩, List.mem_of_getElem? (i := 678) (by decide +kernel), List.mem_of_getElem? (i := 915) (by decide +kernel), List.mem_of_getElem? (i := 916) (by decide +kernel)⟩
theorem lw_p20 : lw_okq (⟨"FirstCartModel", "isReady", "(II)Z"⟩, 35) := ⟨⟨by decide +kernel, by decide +kernel⟩, List.mem_of_getElem? (i := 678) (by decide +kernel), List.mem_of_getElem? (i := 919) (by decide +kernel), List.mem_of_getElem? (i := 920) (by decide +kernel)⟩
theorem lw_p21 : lw_okq (⟨"FirstCartModel", "stands", "(II)Z"⟩, 35) := ⟨⟨by decide +kernel, by decide +kernel⟩, List.mem_of_getElem? (i := 678) (by decide +kernel), List.mem_of_getElem? (i := 923) (by decide +kernel), List.mem_of_getElem? (i := 924) (by decide +kernel)⟩
theorem lw_p22 : lw_okq (⟨"FirstCartModel", "standing", "(I)I"⟩, 35) := ⟨⟨by decide +kernel, by decide +kernel⟩, List.mem_of_getElem? (i := 678) (by decide +kernel), List.mem_of_getElem? (i := 927) (by decide +kernel), List.mem_of_getElem? (i := 928) (by decide +kernel)⟩
theorem lw_p23 : lw_okq (⟨"FirstCartModel", "isAhead", "(II)Z"⟩, 35) := ⟨⟨by decide +kernel, by decide +kernel⟩, List.mem_of_getElem? (i := 678) (by decide +kernel), List.mem_of_getElem? (i := 931) (by decide +kernel), List.mem_of_getElem? (i := 932) (by decide +kernel)⟩
theorem lw_p24 : lw_okq (⟨"FirstCartModel", "tollFor", "(I)I"⟩, 35) := ⟨⟨by decide +kernel, by decide +kernel⟩, List.mem_of_getElem? (i := 678) (by decide +kernel), List.mem_of_getElem? (i := 935) (by decide +kernel), List.mem_of_getElem? (i := 936) (by decide +kernel)⟩
theorem lw_p25 : lw_okq (⟨"FirstCartModel", "isCart", "(I)Z"⟩, 35) := ⟨⟨by decide +kernel, by decide +kernel⟩, List.mem_of_getElem? (i := 678) (by decide +kernel), List.mem_of_getElem? (i := 943) (by decide +kernel), List.mem_of_getElem? (i := 944) (by decide +kernel)⟩
theorem lw_p26 : lw_okq (⟨"FirstCartModel", "costOf", "(I)I"⟩, 35) := ⟨⟨by decide +kernel, by decide +kernel⟩, List.mem_of_getElem? (i := 678) (by decide +kernel), List.mem_of_getElem? (i := 957) (by decide +kernel), List.mem_of_getElem? (i := 958) (by decide +kernel)⟩
theorem lw_p27 : lw_okq (⟨"FirstCartModel", "goDay", "()V"⟩, 35) := ⟨⟨by decide +kernel, by decide +kernel⟩, List.mem_of_getElem? (i := 678) (by decide +kernel), List.mem_of_getElem? (i := 965) (by decide +kernel), List.mem_of_getElem? (i := 966) (by decide +kernel)⟩
theorem lw_p28 : lw_okq (⟨"FirstCartModel", "bestOf", "(I)I"⟩, 35) := ⟨⟨by decide +kernel, by decide +kernel⟩, List.mem_of_getElem? (i := 678) (by decide +kernel), List.mem_of_getElem? (i := 979) (by decide +kernel), List.mem_of_getElem? (i := 980) (by decide +kernel)⟩
theorem lw_p29 : lw_okq (⟨"FirstCartModel", "sizeOf", "(I)I"⟩, 35) := ⟨⟨by decide +kernel, by decide +kernel⟩, List.mem_of_getElem? (i := 678) (by decide +kernel), List.mem_of_getElem? (i := 1048) (by decide +kernel), List.mem_of_getElem? (i := 1049) (by decide +kernel)⟩
theorem lw_p30 : lw_okq (⟨"FirstCartModel", "goSize", "(I)I"⟩, 35) := ⟨⟨by decide +kernel, by decide +kernel⟩, List.mem_of_getElem? (i := 678) (by decide +kernel), List.mem_of_getElem? (i := 1052) (by decide +kernel), List.mem_of_getElem? (i := 1053) (by decide +kernel)⟩
theorem lw_p31 : lw_okq (⟨"FirstCartModel", "began", "(I)V"⟩, 35) := ⟨⟨by decide +kernel, by decide +kernel⟩, List.mem_of_getElem? (i := 678) (by decide +kernel), List.mem_of_getElem? (i := 1056) (by decide +kernel), List.mem_of_getElem? (i := 1057) (by decide +kernel)⟩
def lw_privs_2 : List (MethodName × Nat) := [(⟨"FirstCartModel", "keep", "()V"⟩, 35), (⟨"FirstCartModel", "layNow", "()V"⟩, 35), (⟨"FirstCartModel", "of", "(II)I"⟩, 35), (⟨"FirstCartModel", "goHour", "(I)I"⟩, 35), (⟨"FirstCartModel", "isReady", "(II)Z"⟩, 35), (⟨"FirstCartModel", "stands", "(II)Z"⟩, 35), (⟨"FirstCartModel", "standing", "(I)I"⟩, 35), (⟨"FirstCartModel", "isAhead", "(II)Z"⟩, 35), (⟨"FirstCartModel", "tollFor", "(I)I"⟩, 35), (⟨"FirstCartModel", "isCart", "(I)Z"⟩, 35), (⟨"FirstCartModel", "costOf", "(I)I"⟩, 35), (⟨"FirstCartModel", "goDay", "()V"⟩, 35), (⟨"FirstCartModel", "bestOf", "(I)I"⟩, 35), (⟨"FirstCartModel", "sizeOf", "(I)I"⟩, 35), (⟨"FirstCartModel", "goSize", "(I)I"⟩, 35), (⟨"FirstCartModel", "began", "(I)V"⟩, 35)]
theorem lw_r2 : ∀ q ∈ lw_privs_2, lw_okq q := List.forall_mem_cons.mpr ⟨lw_p16, List.forall_mem_cons.mpr ⟨lw_p17, List.forall_mem_cons.mpr ⟨lw_p18, List.forall_mem_cons.mpr ⟨lw_p19, List.forall_mem_cons.mpr ⟨lw_p20, List.forall_mem_cons.mpr ⟨lw_p21, List.forall_mem_cons.mpr ⟨lw_p22, List.forall_mem_cons.mpr ⟨lw_p23, List.forall_mem_cons.mpr ⟨lw_p24, List.forall_mem_cons.mpr ⟨lw_p25, List.forall_mem_cons.mpr ⟨lw_p26, List.forall_mem_cons.mpr ⟨lw_p27, List.forall_mem_cons.mpr ⟨lw_p28, List.forall_mem_cons.mpr ⟨lw_p29, List.forall_mem_cons.mpr ⟨lw_p30, List.forall_mem_cons.mpr ⟨lw_p31, fun _ h => absurd h List.not_mem_nil⟩⟩⟩⟩⟩⟩⟩⟩⟩⟩⟩⟩⟩⟩⟩⟩
theorem lw_p32 : lw_okq (⟨"FirstCartModel", "plainSize", "(I)I"⟩, 35) := ⟨⟨by decide +kernel, by decide +kernel⟩, List.mem_of_getElem? (i := 678) (by decide +kernel), List.mem_of_getElem? (i := 1060) (by decide +kernel), List.mem_of_getElem? (i := 1061) (by decide +kernel)⟩
theorem lw_p33 : lw_okq (⟨"FirstCartModel", "markOf", "(I)I"⟩, 35) := ⟨⟨by decide +kernel, by decide +kernel⟩, List.mem_of_getElem? (i := 678) (by decide +kernel), List.mem_of_getElem? (i := 1064) (by decide +kernel), List.mem_of_getElem? (i := 1065) (by decide +kernel)⟩
def lw_privs_3 : List (MethodName × Nat) := [(⟨"FirstCartModel", "plainSize", "(I)I"⟩, 35), (⟨"FirstCartModel", "markOf", "(I)I"⟩, 35)]
theorem lw_r3 : ∀ q ∈ lw_privs_3, lw_okq q := List.forall_mem_cons.mpr ⟨lw_p32, List.forall_mem_cons.mpr ⟨lw_p33, fun _ h => absurd h List.not_mem_nil⟩⟩
def lw_privs : List (MethodName × Nat) := lw_privs_1 ++ (lw_privs_2 ++ (lw_privs_3))
def lw_tbl : List Cond := k2_sels lw_privs ++ tables_1
theorem lw_privs_ok : ∀ q ∈ lw_privs, lw_okq q := by
  show ∀ q ∈ lw_privs_1 ++ (lw_privs_2 ++ (lw_privs_3)), lw_okq q
  exact List.forall_mem_append.mpr ⟨lw_r1, List.forall_mem_append.mpr ⟨lw_r2, lw_r3⟩⟩
end
section
def RX0 : String := "FirstCart$Acts"
def TX0 : u_T := fun k => match k with
  | 0 => ("FirstCart$Acts", "whose", "[I", true)
  | 1 => ("FirstCart$Acts", "before", "[I", true)
  | _ => ("FirstCart$Acts", "length", "I", false)
def tyX0 : Nat → FieldType := fun k => match k with
  | 0 => .array .int
  | 1 => .array .int
  | _ => .int
abbrev wsX00 : List Cond := u_ws RX0 TX0 3
theorem nmX0 : ∀ a, a < 3 → ∀ b, b < 3 → a ≠ b → (TX0 a).2.1 ≠ (TX0 b).2.1 := by decide +kernel
theorem tyX0_ok : ∀ k, k < 3 → parseFieldDescriptor (TX0 k).2.2.1 = some (tyX0 k) := by decide +kernel
abbrev cX0_init : ByteArray := prog_2_method_1_code
def yX0_init : MethodName := ⟨RX0, "<init>", "()V"⟩
abbrev cX0_keep : ByteArray := prog_2_method_2_code
def yX0_keep : MethodName := ⟨RX0, "keep", "(II)V"⟩
def RX1 : String := "FirstCart$Asks"
def TX1 : u_T := fun k => match k with
  | 0 => ("FirstCart$Asks", "numbers", "[I", true)
  | _ => ("FirstCart$Asks", "length", "I", false)
def tyX1 : Nat → FieldType := fun k => match k with
  | 0 => .array .int
  | _ => .int
abbrev wsX10 : List Cond := u_ws RX1 TX1 2
theorem nmX1 : ∀ a, a < 2 → ∀ b, b < 2 → a ≠ b → (TX1 a).2.1 ≠ (TX1 b).2.1 := by decide +kernel
theorem tyX1_ok : ∀ k, k < 2 → parseFieldDescriptor (TX1 k).2.2.1 = some (tyX1 k) := by decide +kernel
abbrev cX1_init : ByteArray := prog_3_method_1_code
def yX1_init : MethodName := ⟨RX1, "<init>", "()V"⟩
abbrev cX1_begin : ByteArray := prog_3_method_2_code
def yX1_begin : MethodName := ⟨RX1, "begin", "(LFirstCart$Pass;I[I)I"⟩
abbrev cX1_answer : ByteArray := prog_3_method_3_code
def yX1_answer : MethodName := ⟨RX1, "answer", "(LFirstCart$Pass;III)I"⟩
def RX2 : String := "FirstCart$Foretold"
def TX2 : u_T := fun k => match k with
  | _ => ("FirstCart$Foretold", "day", "LFirstCart$Pass;", true)
def tyX2 : Nat → FieldType := fun k => match k with
  | _ => .object "FirstCart$Pass"
abbrev wsX20 : List Cond := u_ws RX2 TX2 1
theorem nmX2 : ∀ a, a < 1 → ∀ b, b < 1 → a ≠ b → (TX2 a).2.1 ≠ (TX2 b).2.1 := by decide +kernel
theorem tyX2_ok : ∀ k, k < 1 → parseFieldDescriptor (TX2 k).2.2.1 = some (tyX2 k) := by decide +kernel
abbrev cX2_init : ByteArray := prog_4_method_1_code
def yX2_init : MethodName := ⟨RX2, "<init>", "()V"⟩
abbrev cX2_dayOf : ByteArray := prog_4_method_2_code
def yX2_dayOf : MethodName := ⟨RX2, "dayOf", "(LFirstCart$Pass;)LFirstCart$Pass;"⟩
abbrev cX2_dayWithBest : ByteArray := prog_4_method_3_code
def yX2_dayWithBest : MethodName := ⟨RX2, "dayWithBest", "(LFirstCart$Pass;I)LFirstCart$Pass;"⟩
abbrev cX2_takeBest : ByteArray := prog_4_method_4_code
def yX2_takeBest : MethodName := ⟨RX2, "takeBest", "(I)Z"⟩
abbrev cX2_roundsToRest : ByteArray := prog_4_method_5_code
def yX2_roundsToRest : MethodName := ⟨RX2, "roundsToRest", "(LFirstCart$Pass;)I"⟩
abbrev cX2_patiencesToGoIn : ByteArray := prog_4_method_6_code
def yX2_patiencesToGoIn : MethodName := ⟨RX2, "patiencesToGoIn", "(LFirstCart$Pass;II)I"⟩
abbrev cX2_whenOfTwo : ByteArray := prog_4_method_7_code
def yX2_whenOfTwo : MethodName := ⟨RX2, "whenOfTwo", "(LFirstCart$Pass;IIIZ)I"⟩
abbrev cX2_timesFirst : ByteArray := prog_4_method_8_code
def yX2_timesFirst : MethodName := ⟨RX2, "timesFirst", "(LFirstCart$Pass;II)I"⟩
abbrev cX2_costByFord : ByteArray := prog_4_method_9_code
def yX2_costByFord : MethodName := ⟨RX2, "costByFord", "(LFirstCart$Pass;IIIZ)I"⟩
abbrev cX2_commonPart : ByteArray := prog_4_method_10_code
def yX2_commonPart : MethodName := ⟨RX2, "commonPart", "(II)I"⟩
abbrev cX2_costOfGoat : ByteArray := prog_4_method_11_code
def yX2_costOfGoat : MethodName := ⟨RX2, "costOfGoat", "(LFirstCart$Pass;II)I"⟩
def RX3 : String := "FirstCart$Pass"
def TX3 : u_T := fun k => match k with
  | 0 => ("FirstCart$Pass", "toll", "[I", true)
  | 1 => ("FirstCart$Pass", "kind", "[I", true)
  | 2 => ("FirstCart$Pass", "come", "[I", true)
  | 3 => ("FirstCart$Pass", "haste", "[I", true)
  | 4 => ("FirstCart$Pass", "patience", "[I", true)
  | 5 => ("FirstCart$Pass", "went", "[I", true)
  | 6 => ("FirstCart$Pass", "paid", "[I", true)
  | 7 => ("FirstCart$Pass", "timesFirst", "[I", true)
  | 8 => ("FirstCart$Pass", "payer", "[I", true)
  | 9 => ("FirstCart$Pass", "isTold", "Z", false)
  | 10 => ("FirstCart$Pass", "carts", "I", false)
  | _ => ("FirstCart$Pass", "hour", "I", false)
def tyX3 : Nat → FieldType := fun k => match k with
  | 0 => .array .int
  | 1 => .array .int
  | 2 => .array .int
  | 3 => .array .int
  | 4 => .array .int
  | 5 => .array .int
  | 6 => .array .int
  | 7 => .array .int
  | 8 => .array .int
  | 9 => .boolean
  | 10 => .int
  | _ => .int
abbrev wsX30 : List Cond := u_ws RX3 TX3 12
theorem nmX3 : ∀ a, a < 12 → ∀ b, b < 12 → a ≠ b → (TX3 a).2.1 ≠ (TX3 b).2.1 := by decide +kernel
theorem tyX3_ok : ∀ k, k < 12 → parseFieldDescriptor (TX3 k).2.2.1 = some (tyX3 k) := by decide +kernel
abbrev cX3_init : ByteArray := prog_5_method_1_code
def yX3_init : MethodName := ⟨RX3, "<init>", "()V"⟩
abbrev cX3_become : ByteArray := prog_5_method_2_code
def yX3_become : MethodName := ⟨RX3, "become", "(LFirstCart$Pass;)V"⟩
abbrev cX3_copyAll : ByteArray := prog_5_method_3_code
def yX3_copyAll : MethodName := ⟨RX3, "copyAll", "([I[I)V"⟩
abbrev cX3_beginAnew : ByteArray := prog_5_method_4_code
def yX3_beginAnew : MethodName := ⟨RX3, "beginAnew", "()V"⟩
abbrev cX3_runDay : ByteArray := prog_5_method_5_code
def yX3_runDay : MethodName := ⟨RX3, "runDay", "()V"⟩
abbrev cX3_goBy : ByteArray := prog_5_method_6_code
def yX3_goBy : MethodName := ⟨RX3, "goBy", "()I"⟩
abbrev cX3_goBack : ByteArray := prog_5_method_7_code
def yX3_goBack : MethodName := ⟨RX3, "goBack", "()V"⟩
abbrev cX3_standing : ByteArray := prog_5_method_8_code
def yX3_standing : MethodName := ⟨RX3, "standing", "()I"⟩
abbrev cX3_readyOf : ByteArray := prog_5_method_9_code
def yX3_readyOf : MethodName := ⟨RX3, "readyOf", "(I)I"⟩
abbrev cX3_isReady : ByteArray := prog_5_method_10_code
def yX3_isReady : MethodName := ⟨RX3, "isReady", "(IZ)Z"⟩
abbrev cX3_followersOf : ByteArray := prog_5_method_11_code
def yX3_followersOf : MethodName := ⟨RX3, "followersOf", "(I)I"⟩
abbrev cX3_foremostOf : ByteArray := prog_5_method_12_code
def yX3_foremostOf : MethodName := ⟨RX3, "foremostOf", "(I)I"⟩
abbrev cX3_isAhead : ByteArray := prog_5_method_13_code
def yX3_isAhead : MethodName := ⟨RX3, "isAhead", "(II)Z"⟩
abbrev cX3_markGone : ByteArray := prog_5_method_14_code
def yX3_markGone : MethodName := ⟨RX3, "markGone", "(I)V"⟩
abbrev cX3_tollFor : ByteArray := prog_5_method_15_code
def yX3_tollFor : MethodName := ⟨RX3, "tollFor", "(I)I"⟩
abbrev cX3_costOf : ByteArray := prog_5_method_16_code
def yX3_costOf : MethodName := ⟨RX3, "costOf", "(I)I"⟩
abbrev cX3_cartsGone : ByteArray := prog_5_method_17_code
def yX3_cartsGone : MethodName := ⟨RX3, "cartsGone", "()I"⟩
abbrev cX3_paidInAll : ByteArray := prog_5_method_18_code
def yX3_paidInAll : MethodName := ⟨RX3, "paidInAll", "()I"⟩
abbrev cX3_greatestShares : ByteArray := prog_5_method_19_code
def yX3_greatestShares : MethodName := ⟨RX3, "greatestShares", "(II)I"⟩
abbrev cX3_holds : ByteArray := prog_5_method_20_code
def yX3_holds : MethodName := ⟨RX3, "holds", "(I)Z"⟩
abbrev cX3_cheapestSize : ByteArray := prog_5_method_21_code
def yX3_cheapestSize : MethodName := ⟨RX3, "cheapestSize", "()I"⟩
def RX4 : String := "FirstCart$Reader"
def TX4 : u_T := fun k => match k with
  | 0 => ("FirstCart$Reader", "tape", "[B", true)
  | 1 => ("FirstCart$Reader", "length", "I", false)
  | 2 => ("FirstCart$Reader", "draft", "LFirstCart$Pass;", true)
  | 3 => ("FirstCart$Reader", "token", "I", false)
  | 4 => ("FirstCart$Reader", "start", "I", false)
  | 5 => ("FirstCart$Reader", "end", "I", false)
  | 6 => ("FirstCart$Reader", "value", "I", false)
  | _ => ("FirstCart$Reader", "fault", "I", false)
def tyX4 : Nat → FieldType := fun k => match k with
  | 0 => .array .byte
  | 1 => .int
  | 2 => .object "FirstCart$Pass"
  | 3 => .int
  | 4 => .int
  | 5 => .int
  | 6 => .int
  | _ => .int
abbrev wsX40 : List Cond := u_ws RX4 TX4 8
theorem nmX4 : ∀ a, a < 8 → ∀ b, b < 8 → a ≠ b → (TX4 a).2.1 ≠ (TX4 b).2.1 := by decide +kernel
theorem tyX4_ok : ∀ k, k < 8 → parseFieldDescriptor (TX4 k).2.2.1 = some (tyX4 k) := by decide +kernel
abbrev cX4_init : ByteArray := prog_6_method_1_code
def yX4_init : MethodName := ⟨RX4, "<init>", "()V"⟩
abbrev cX4_readPass : ByteArray := prog_6_method_2_code
def yX4_readPass : MethodName := ⟨RX4, "readPass", "()Z"⟩
abbrev cX4_readToll : ByteArray := prog_6_method_3_code
def yX4_readToll : MethodName := ⟨RX4, "readToll", "()Z"⟩
abbrev cX4_readCart : ByteArray := prog_6_method_4_code
def yX4_readCart : MethodName := ⟨RX4, "readCart", "()Z"⟩
abbrev cX4_kindNamed : ByteArray := prog_6_method_5_code
def yX4_kindNamed : MethodName := ⟨RX4, "kindNamed", "()I"⟩
abbrev cX4_readNumber : ByteArray := prog_6_method_6_code
def yX4_readNumber : MethodName := ⟨RX4, "readNumber", "(I)Z"⟩
abbrev cX4_readSign : ByteArray := prog_6_method_7_code
def yX4_readSign : MethodName := ⟨RX4, "readSign", "()Z"⟩
abbrev cX4_fail : ByteArray := prog_6_method_8_code
def yX4_fail : MethodName := ⟨RX4, "fail", "(I)Z"⟩
abbrev cX4_step : ByteArray := prog_6_method_9_code
def yX4_step : MethodName := ⟨RX4, "step", "()V"⟩
abbrev cX4_stepName : ByteArray := prog_6_method_10_code
def yX4_stepName : MethodName := ⟨RX4, "stepName", "()V"⟩
abbrev cX4_stepNumber : ByteArray := prog_6_method_11_code
def yX4_stepNumber : MethodName := ⟨RX4, "stepNumber", "()V"⟩
abbrev cX4_isLetter : ByteArray := prog_6_method_12_code
def yX4_isLetter : MethodName := ⟨RX4, "isLetter", "(I)Z"⟩
abbrev cX4_isFigure : ByteArray := prog_6_method_13_code
def yX4_isFigure : MethodName := ⟨RX4, "isFigure", "(I)Z"⟩
abbrev cX4_isWord : ByteArray := prog_6_method_14_code
def yX4_isWord : MethodName := ⟨RX4, "isWord", "(Ljava/lang/String;)Z"⟩
def RX5 : String := "FirstCart$Row"
def TX5 : u_T := fun k => match k with
  | 0 => ("FirstCart$Row", "items", "[I", true)
  | 1 => ("FirstCart$Row", "isThere", "Z", false)
  | 2 => ("FirstCart$Row", "lane", "I", false)
  | _ => ("FirstCart$Row", "length", "I", false)
def tyX5 : Nat → FieldType := fun k => match k with
  | 0 => .array .int
  | 1 => .boolean
  | 2 => .int
  | _ => .int
abbrev wsX50 : List Cond := u_ws RX5 TX5 4
theorem nmX5 : ∀ a, a < 4 → ∀ b, b < 4 → a ≠ b → (TX5 a).2.1 ≠ (TX5 b).2.1 := by decide +kernel
theorem tyX5_ok : ∀ k, k < 4 → parseFieldDescriptor (TX5 k).2.2.1 = some (tyX5 k) := by decide +kernel
abbrev cX5_init : ByteArray := prog_7_method_1_code
def yX5_init : MethodName := ⟨RX5, "<init>", "()V"⟩
abbrev cX5_begin : ByteArray := prog_7_method_2_code
def yX5_begin : MethodName := ⟨RX5, "begin", "(II)V"⟩
abbrev cX5_hasPlaces : ByteArray := prog_7_method_3_code
def yX5_hasPlaces : MethodName := ⟨RX5, "hasPlaces", "(II)Z"⟩
abbrev cX5_lowestBits : ByteArray := prog_7_method_4_code
def yX5_lowestBits : MethodName := ⟨RX5, "lowestBits", "(I)I"⟩
def RX6 : String := "FirstCart"
def TX6 : u_T := fun k => match k with
  | 0 => ("FirstCart", "rows", "[LFirstCart$Row;", true)
  | 1 => ("FirstCart", "reader", "LFirstCart$Reader;", true)
  | 2 => ("FirstCart", "now", "LFirstCart$Pass;", true)
  | 3 => ("FirstCart", "images", "[LFirstCart$Pass;", true)
  | 4 => ("FirstCart", "acts", "LFirstCart$Acts;", true)
  | 5 => ("FirstCart", "foretold", "LFirstCart$Foretold;", true)
  | 6 => ("FirstCart", "asks", "LFirstCart$Asks;", true)
  | 7 => ("FirstCart", "fault", "I", false)
  | _ => ("FirstCart", "status", "I", false)
def tyX6 : Nat → FieldType := fun k => match k with
  | 0 => .array (.object "FirstCart$Row")
  | 1 => .object "FirstCart$Reader"
  | 2 => .object "FirstCart$Pass"
  | 3 => .array (.object "FirstCart$Pass")
  | 4 => .object "FirstCart$Acts"
  | 5 => .object "FirstCart$Foretold"
  | 6 => .object "FirstCart$Asks"
  | 7 => .int
  | _ => .int
abbrev wsX60 : List Cond := u_ws RX6 TX6 9
theorem nmX6 : ∀ a, a < 9 → ∀ b, b < 9 → a ≠ b → (TX6 a).2.1 ≠ (TX6 b).2.1 := by decide +kernel
theorem tyX6_ok : ∀ k, k < 9 → parseFieldDescriptor (TX6 k).2.2.1 = some (tyX6 k) := by decide +kernel
abbrev cX6_init : ByteArray := prog_1_method_1_code
def yX6_init : MethodName := ⟨RX6, "<init>", "()V"⟩
abbrev cX6_row : ByteArray := prog_1_method_2_code
def yX6_row : MethodName := ⟨RX6, "row", "(III)I"⟩
abbrev cX6_set : ByteArray := prog_1_method_3_code
def yX6_set : MethodName := ⟨RX6, "set", "(III)I"⟩
abbrev cX6_copy : ByteArray := prog_1_method_4_code
def yX6_copy : MethodName := ⟨RX6, "copy", "(IIIII)I"⟩
abbrev cX6_drop : ByteArray := prog_1_method_5_code
def yX6_drop : MethodName := ⟨RX6, "drop", "(I)I"⟩
abbrev cX6_feed : ByteArray := prog_1_method_6_code
def yX6_feed : MethodName := ⟨RX6, "feed", "(JI)I"⟩
abbrev cX6_pass : ByteArray := prog_1_method_7_code
def yX6_pass : MethodName := ⟨RX6, "pass", "()I"⟩
abbrev cX6_fault : ByteArray := prog_1_method_8_code
def yX6_fault : MethodName := ⟨RX6, "fault", "()I"⟩
abbrev cX6_hour : ByteArray := prog_1_method_9_code
def yX6_hour : MethodName := ⟨RX6, "hour", "()I"⟩
abbrev cX6_waits : ByteArray := prog_1_method_10_code
def yX6_waits : MethodName := ⟨RX6, "waits", "(II)I"⟩
abbrev cX6_undo : ByteArray := prog_1_method_11_code
def yX6_undo : MethodName := ⟨RX6, "undo", "()I"⟩
abbrev cX6_cart : ByteArray := prog_1_method_12_code
def yX6_cart : MethodName := ⟨RX6, "cart", "(II)I"⟩
abbrev cX6_day : ByteArray := prog_1_method_13_code
def yX6_day : MethodName := ⟨RX6, "day", "(II)I"⟩
abbrev cX6_judge : ByteArray := prog_1_method_14_code
def yX6_judge : MethodName := ⟨RX6, "judge", "(II)I"⟩
abbrev cX6_best : ByteArray := prog_1_method_15_code
def yX6_best : MethodName := ⟨RX6, "best", "(II)I"⟩
abbrev cX6_rest : ByteArray := prog_1_method_16_code
def yX6_rest : MethodName := ⟨RX6, "rest", "(I)I"⟩
abbrev cX6_thought : ByteArray := prog_1_method_17_code
def yX6_thought : MethodName := ⟨RX6, "thought", "(II)I"⟩
abbrev cX6_two : ByteArray := prog_1_method_18_code
def yX6_two : MethodName := ⟨RX6, "two", "(IIII)I"⟩
abbrev cX6_shares : ByteArray := prog_1_method_19_code
def yX6_shares : MethodName := ⟨RX6, "shares", "(II)I"⟩
abbrev cX6_size : ByteArray := prog_1_method_20_code
def yX6_size : MethodName := ⟨RX6, "size", "()I"⟩
abbrev cX6_book : ByteArray := prog_1_method_21_code
def yX6_book : MethodName := ⟨RX6, "book", "(II)I"⟩
abbrev cX6_ford : ByteArray := prog_1_method_22_code
def yX6_ford : MethodName := ⟨RX6, "ford", "(IIII)I"⟩
abbrev cX6_goat : ByteArray := prog_1_method_23_code
def yX6_goat : MethodName := ⟨RX6, "goat", "(II)I"⟩
abbrev cX6_image : ByteArray := prog_1_method_24_code
def yX6_image : MethodName := ⟨RX6, "image", "(I)I"⟩
abbrev cX6_restore : ByteArray := prog_1_method_25_code
def yX6_restore : MethodName := ⟨RX6, "restore", "(I)I"⟩
abbrev cX6_kind : ByteArray := prog_1_method_26_code
def yX6_kind : MethodName := ⟨RX6, "kind", "(I)I"⟩
abbrev cX6_as : ByteArray := prog_1_method_27_code
def yX6_as : MethodName := ⟨RX6, "as", "(II)I"⟩
abbrev cX6_ask : ByteArray := prog_1_method_28_code
def yX6_ask : MethodName := ⟨RX6, "ask", "(II)I"⟩
abbrev cX6_trace : ByteArray := prog_1_method_29_code
def yX6_trace : MethodName := ⟨RX6, "trace", "(I)I"⟩
abbrev cX6_count : ByteArray := prog_1_method_30_code
def yX6_count : MethodName := ⟨RX6, "count", "(I)I"⟩
abbrev cX6_status : ByteArray := prog_1_method_31_code
def yX6_status : MethodName := ⟨RX6, "status", "()I"⟩
abbrev cX6_found : ByteArray := prog_1_method_32_code
def yX6_found : MethodName := ⟨RX6, "found", "(I)I"⟩
abbrev cX6_isCart : ByteArray := prog_1_method_33_code
def yX6_isCart : MethodName := ⟨RX6, "isCart", "(I)Z"⟩
abbrev cX6_rowsThere : ByteArray := prog_1_method_34_code
def yX6_rowsThere : MethodName := ⟨RX6, "rowsThere", "()I"⟩
abbrev cX6_isRow : ByteArray := prog_1_method_35_code
def yX6_isRow : MethodName := ⟨RX6, "isRow", "(I)Z"⟩
abbrev cX6_isHour : ByteArray := prog_1_method_36_code
def yX6_isHour : MethodName := ⟨RX6, "isHour", "(I)Z"⟩
abbrev cX6_isWithin : ByteArray := prog_1_method_37_code
def yX6_isWithin : MethodName := ⟨RX6, "isWithin", "(III)Z"⟩
abbrev cX6_isOfKind : ByteArray := prog_1_method_38_code
def yX6_isOfKind : MethodName := ⟨RX6, "isOfKind", "(II)Z"⟩
abbrev cX6_bodyFor : ByteArray := prog_1_method_39_code
def yX6_bodyFor : MethodName := ⟨RX6, "bodyFor", "([II)I"⟩
def RX7 : String := "FirstCartModel"
def TX7 : u_T := fun k => match k with
  | 0 => ("FirstCartModel", "thrown", "I", false)
  | 1 => ("FirstCartModel", "status", "I", false)
  | 2 => ("FirstCartModel", "lane", "[I", true)
  | 3 => ("FirstCartModel", "many", "[I", true)
  | 4 => ("FirstCartModel", "item", "[I", true)
  | 5 => ("FirstCartModel", "pass", "[I", true)
  | 6 => ("FirstCartModel", "fresh", "[I", true)
  | 7 => ("FirstCartModel", "isThere", "Z", false)
  | 8 => ("FirstCartModel", "was", "[I", true)
  | 9 => ("FirstCartModel", "acts", "I", false)
  | 10 => ("FirstCartModel", "tape", "[I", true)
  | 11 => ("FirstCartModel", "taped", "I", false)
  | 12 => ("FirstCartModel", "latest", "I", false)
  | 13 => ("FirstCartModel", "length", "I", false)
  | 14 => ("FirstCartModel", "cursor", "I", false)
  | 15 => ("FirstCartModel", "token", "I", false)
  | 16 => ("FirstCartModel", "start", "I", false)
  | 17 => ("FirstCartModel", "till", "I", false)
  | 18 => ("FirstCartModel", "fault", "I", false)
  | 19 => ("FirstCartModel", "faultAt", "I", false)
  | 20 => ("FirstCartModel", "laid", "I", false)
  | 21 => ("FirstCartModel", "kind", "[I", true)
  | 22 => ("FirstCartModel", "come", "[I", true)
  | 23 => ("FirstCartModel", "haste", "[I", true)
  | 24 => ("FirstCartModel", "patience", "[I", true)
  | 25 => ("FirstCartModel", "went", "[I", true)
  | 26 => ("FirstCartModel", "paid", "[I", true)
  | 27 => ("FirstCartModel", "foremost", "[I", true)
  | 28 => ("FirstCartModel", "times", "[I", true)
  | 29 => ("FirstCartModel", "isBook", "Z", false)
  | 30 => ("FirstCartModel", "bestCost", "I", false)
  | 31 => ("FirstCartModel", "isKept", "[Z", true)
  | 32 => ("FirstCartModel", "kept", "[I", true)
  | 33 => ("FirstCartModel", "trace", "[I", true)
  | _ => ("FirstCartModel", "traced", "I", false)
def tyX7 : Nat → FieldType := fun k => match k with
  | 0 => .int
  | 1 => .int
  | 2 => .array .int
  | 3 => .array .int
  | 4 => .array .int
  | 5 => .array .int
  | 6 => .array .int
  | 7 => .boolean
  | 8 => .array .int
  | 9 => .int
  | 10 => .array .int
  | 11 => .int
  | 12 => .int
  | 13 => .int
  | 14 => .int
  | 15 => .int
  | 16 => .int
  | 17 => .int
  | 18 => .int
  | 19 => .int
  | 20 => .int
  | 21 => .array .int
  | 22 => .array .int
  | 23 => .array .int
  | 24 => .array .int
  | 25 => .array .int
  | 26 => .array .int
  | 27 => .array .int
  | 28 => .array .int
  | 29 => .boolean
  | 30 => .int
  | 31 => .array .boolean
  | 32 => .array .int
  | 33 => .array .int
  | _ => .int
abbrev wsX70 : List Cond := u_ws RX7 TX7 35
theorem nmX7 : ∀ a, a < 35 → ∀ b, b < 35 → a ≠ b → (TX7 a).2.1 ≠ (TX7 b).2.1 := by decide +kernel
theorem tyX7_ok : ∀ k, k < 35 → parseFieldDescriptor (TX7 k).2.2.1 = some (tyX7 k) := by decide +kernel
abbrev cX7_init : ByteArray := prog_9_method_1_code
def yX7_init : MethodName := ⟨RX7, "<init>", "()V"⟩
abbrev cX7_in : ByteArray := prog_9_method_3_code
def yX7_in : MethodName := ⟨RX7, "in", "(JJJ)Z"⟩
abbrev cX7_finding : ByteArray := prog_9_method_4_code
def yX7_finding : MethodName := ⟨RX7, "finding", "(I)I"⟩
abbrev cX7_isRow : ByteArray := prog_9_method_5_code
def yX7_isRow : MethodName := ⟨RX7, "isRow", "(I)Z"⟩
abbrev cX7_row : ByteArray := prog_9_method_6_code
def yX7_row : MethodName := ⟨RX7, "row", "(III)I"⟩
abbrev cX7_set : ByteArray := prog_9_method_7_code
def yX7_set : MethodName := ⟨RX7, "set", "(III)I"⟩
abbrev cX7_copy : ByteArray := prog_9_method_8_code
def yX7_copy : MethodName := ⟨RX7, "copy", "(IIIII)I"⟩
abbrev cX7_drop : ByteArray := prog_9_method_9_code
def yX7_drop : MethodName := ⟨RX7, "drop", "(I)I"⟩
abbrev cX7_feed : ByteArray := prog_9_method_10_code
def yX7_feed : MethodName := ⟨RX7, "feed", "(JI)I"⟩
abbrev cX7_byteAt : ByteArray := prog_9_method_11_code
def yX7_byteAt : MethodName := ⟨RX7, "byteAt", "(I)I"⟩
abbrev cX7_isLetter : ByteArray := prog_9_method_12_code
def yX7_isLetter : MethodName := ⟨RX7, "isLetter", "(I)Z"⟩
abbrev cX7_isFigure : ByteArray := prog_9_method_13_code
def yX7_isFigure : MethodName := ⟨RX7, "isFigure", "(I)Z"⟩
abbrev cX7_next : ByteArray := prog_9_method_14_code
def yX7_next : MethodName := ⟨RX7, "next", "()V"⟩
abbrev cX7_begin : ByteArray := prog_9_method_15_code
def yX7_begin : MethodName := ⟨RX7, "begin", "()V"⟩
abbrev cX7_bad : ByteArray := prog_9_method_16_code
def yX7_bad : MethodName := ⟨RX7, "bad", "(I)V"⟩
abbrev cX7_must : ByteArray := prog_9_method_17_code
def yX7_must : MethodName := ⟨RX7, "must", "(Z)V"⟩
abbrev cX7_name : ByteArray := prog_9_method_18_code
def yX7_name : MethodName := ⟨RX7, "name", "()J"⟩
abbrev cX7_figures : ByteArray := prog_9_method_19_code
def yX7_figures : MethodName := ⟨RX7, "figures", "()I"⟩
abbrev cX7_number : ByteArray := prog_9_method_20_code
def yX7_number : MethodName := ⟨RX7, "number", "(II)I"⟩
abbrev cX7_kindBy : ByteArray := prog_9_method_21_code
def yX7_kindBy : MethodName := ⟨RX7, "kindBy", "(J)I"⟩
abbrev cX7_mustEnd : ByteArray := prog_9_method_22_code
def yX7_mustEnd : MethodName := ⟨RX7, "mustEnd", "()V"⟩
abbrev cX7_readToll : ByteArray := prog_9_method_23_code
def yX7_readToll : MethodName := ⟨RX7, "readToll", "()V"⟩
abbrev cX7_readCart : ByteArray := prog_9_method_24_code
def yX7_readCart : MethodName := ⟨RX7, "readCart", "()V"⟩
abbrev cX7_pass : ByteArray := prog_9_method_25_code
def yX7_pass : MethodName := ⟨RX7, "pass", "()I"⟩
abbrev cX7_fault : ByteArray := prog_9_method_26_code
def yX7_fault : MethodName := ⟨RX7, "fault", "()I"⟩
abbrev cX7_isCart : ByteArray := prog_9_method_27_code
def yX7_isCart : MethodName := ⟨RX7, "isCart", "(I)Z"⟩
abbrev cX7_isHour : ByteArray := prog_9_method_28_code
def yX7_isHour : MethodName := ⟨RX7, "isHour", "(I)Z"⟩
abbrev cX7_of : ByteArray := prog_9_method_29_code
def yX7_of : MethodName := ⟨RX7, "of", "(II)I"⟩
abbrev cX7_tollFor : ByteArray := prog_9_method_30_code
def yX7_tollFor : MethodName := ⟨RX7, "tollFor", "(I)I"⟩
abbrev cX7_layNow : ByteArray := prog_9_method_31_code
def yX7_layNow : MethodName := ⟨RX7, "layNow", "()V"⟩
abbrev cX7_stands : ByteArray := prog_9_method_32_code
def yX7_stands : MethodName := ⟨RX7, "stands", "(II)Z"⟩
abbrev cX7_standing : ByteArray := prog_9_method_33_code
def yX7_standing : MethodName := ⟨RX7, "standing", "(I)I"⟩
abbrev cX7_isReady : ByteArray := prog_9_method_34_code
def yX7_isReady : MethodName := ⟨RX7, "isReady", "(II)Z"⟩
abbrev cX7_isAhead : ByteArray := prog_9_method_35_code
def yX7_isAhead : MethodName := ⟨RX7, "isAhead", "(II)Z"⟩
abbrev cX7_goHour : ByteArray := prog_9_method_36_code
def yX7_goHour : MethodName := ⟨RX7, "goHour", "(I)I"⟩
abbrev cX7_goDay : ByteArray := prog_9_method_37_code
def yX7_goDay : MethodName := ⟨RX7, "goDay", "()V"⟩
abbrev cX7_costOf : ByteArray := prog_9_method_38_code
def yX7_costOf : MethodName := ⟨RX7, "costOf", "(I)I"⟩
abbrev cX7_keep : ByteArray := prog_9_method_39_code
def yX7_keep : MethodName := ⟨RX7, "keep", "()V"⟩
abbrev cX7_hour : ByteArray := prog_9_method_40_code
def yX7_hour : MethodName := ⟨RX7, "hour", "()I"⟩
abbrev cX7_waits : ByteArray := prog_9_method_41_code
def yX7_waits : MethodName := ⟨RX7, "waits", "(II)I"⟩
abbrev cX7_undo : ByteArray := prog_9_method_42_code
def yX7_undo : MethodName := ⟨RX7, "undo", "()I"⟩
abbrev cX7_cart : ByteArray := prog_9_method_43_code
def yX7_cart : MethodName := ⟨RX7, "cart", "(II)I"⟩
abbrev cX7_day : ByteArray := prog_9_method_44_code
def yX7_day : MethodName := ⟨RX7, "day", "(II)I"⟩
abbrev cX7_judge : ByteArray := prog_9_method_45_code
def yX7_judge : MethodName := ⟨RX7, "judge", "(II)I"⟩
abbrev cX7_bestOf : ByteArray := prog_9_method_46_code
def yX7_bestOf : MethodName := ⟨RX7, "bestOf", "(I)I"⟩
abbrev cX7_best : ByteArray := prog_9_method_47_code
def yX7_best : MethodName := ⟨RX7, "best", "(II)I"⟩
abbrev cX7_rest : ByteArray := prog_9_method_48_code
def yX7_rest : MethodName := ⟨RX7, "rest", "(I)I"⟩
abbrev cX7_thought : ByteArray := prog_9_method_49_code
def yX7_thought : MethodName := ⟨RX7, "thought", "(II)I"⟩
abbrev cX7_two : ByteArray := prog_9_method_50_code
def yX7_two : MethodName := ⟨RX7, "two", "(IIII)I"⟩
abbrev cX7_part : ByteArray := prog_9_method_51_code
def yX7_part : MethodName := ⟨RX7, "part", "(III)I"⟩
abbrev cX7_shares : ByteArray := prog_9_method_52_code
def yX7_shares : MethodName := ⟨RX7, "shares", "(II)I"⟩
abbrev cX7_size : ByteArray := prog_9_method_53_code
def yX7_size : MethodName := ⟨RX7, "size", "()I"⟩
abbrev cX7_book : ByteArray := prog_9_method_54_code
def yX7_book : MethodName := ⟨RX7, "book", "(II)I"⟩
abbrev cX7_ford : ByteArray := prog_9_method_55_code
def yX7_ford : MethodName := ⟨RX7, "ford", "(IIII)I"⟩
abbrev cX7_goat : ByteArray := prog_9_method_56_code
def yX7_goat : MethodName := ⟨RX7, "goat", "(II)I"⟩
abbrev cX7_image : ByteArray := prog_9_method_57_code
def yX7_image : MethodName := ⟨RX7, "image", "(I)I"⟩
abbrev cX7_restore : ByteArray := prog_9_method_58_code
def yX7_restore : MethodName := ⟨RX7, "restore", "(I)I"⟩
abbrev cX7_isOf : ByteArray := prog_9_method_59_code
def yX7_isOf : MethodName := ⟨RX7, "isOf", "(II)Z"⟩
abbrev cX7_kind : ByteArray := prog_9_method_60_code
def yX7_kind : MethodName := ⟨RX7, "kind", "(I)I"⟩
abbrev cX7_as : ByteArray := prog_9_method_61_code
def yX7_as : MethodName := ⟨RX7, "as", "(II)I"⟩
abbrev cX7_began : ByteArray := prog_9_method_62_code
def yX7_began : MethodName := ⟨RX7, "began", "(I)V"⟩
abbrev cX7_plainSize : ByteArray := prog_9_method_63_code
def yX7_plainSize : MethodName := ⟨RX7, "plainSize", "(I)I"⟩
abbrev cX7_goSize : ByteArray := prog_9_method_64_code
def yX7_goSize : MethodName := ⟨RX7, "goSize", "(I)I"⟩
abbrev cX7_markOf : ByteArray := prog_9_method_65_code
def yX7_markOf : MethodName := ⟨RX7, "markOf", "(I)I"⟩
abbrev cX7_sizeOf : ByteArray := prog_9_method_66_code
def yX7_sizeOf : MethodName := ⟨RX7, "sizeOf", "(I)I"⟩
abbrev cX7_ask : ByteArray := prog_9_method_67_code
def yX7_ask : MethodName := ⟨RX7, "ask", "(II)I"⟩
abbrev cX7_trace : ByteArray := prog_9_method_68_code
def yX7_trace : MethodName := ⟨RX7, "trace", "(I)I"⟩
abbrev cX7_count : ByteArray := prog_9_method_69_code
def yX7_count : MethodName := ⟨RX7, "count", "(I)I"⟩
abbrev cX7_status : ByteArray := prog_9_method_70_code
def yX7_status : MethodName := ⟨RX7, "status", "()I"⟩
def RJ6 : String := "java/lang/Integer"
def TJ6 : u_T := fun k => match k with
  | _ => ("", "", "", false)
def tyJ6 : Nat → FieldType := fun k => match k with
  | _ => .int
abbrev wsJ60 : List Cond := u_ws RJ6 TJ6 0
theorem nmJ6 : ∀ a, a < 0 → ∀ b, b < 0 → a ≠ b → (TJ6 a).2.1 ≠ (TJ6 b).2.1 := by decide +kernel
theorem tyJ6_ok : ∀ k, k < 0 → parseFieldDescriptor (TJ6 k).2.2.1 = some (tyJ6 k) := by decide +kernel
abbrev cJ6_bitCount_0f7a4 : ByteArray := prog_10_method_49_code
def yJ6_bitCount_0f7a4 : MethodName := ⟨RJ6, "bitCount", "(I)I"⟩
def RJ9 : String := "java/lang/Math"
def TJ9 : u_T := fun k => match k with
  | _ => ("", "", "", false)
def tyJ9 : Nat → FieldType := fun k => match k with
  | _ => .int
abbrev wsJ90 : List Cond := u_ws RJ9 TJ9 0
theorem nmJ9 : ∀ a, a < 0 → ∀ b, b < 0 → a ≠ b → (TJ9 a).2.1 ≠ (TJ9 b).2.1 := by decide +kernel
theorem tyJ9_ok : ∀ k, k < 0 → parseFieldDescriptor (TJ9 k).2.2.1 = some (tyJ9 k) := by decide +kernel
abbrev cJ9_min_7cf53 : ByteArray := prog_11_method_69_code
def yJ9_min_7cf53 : MethodName := ⟨RJ9, "min", "(II)I"⟩
def RJ0 : String := "java/lang/String"
def TJ0 : u_T := fun k => match k with
  | _ => ("", "", "", false)
def tyJ0 : Nat → FieldType := fun k => match k with
  | _ => .int
abbrev wsJ00 : List Cond := u_ws RJ0 TJ0 0
theorem nmJ0 : ∀ a, a < 0 → ∀ b, b < 0 → a ≠ b → (TJ0 a).2.1 ≠ (TJ0 b).2.1 := by decide +kernel
theorem tyJ0_ok : ∀ k, k < 0 → parseFieldDescriptor (TJ0 k).2.2.1 = some (tyJ0 k) := by decide +kernel
abbrev cJ0_length_8abf5 : ByteArray := prog_12_method_54_code
def yJ0_length_8abf5 : MethodName := ⟨RJ0, "length", "()I"⟩
abbrev cJ0_charAt_5068e : ByteArray := prog_12_method_56_code
def yJ0_charAt_5068e : MethodName := ⟨RJ0, "charAt", "(I)C"⟩
abbrev cJ0_coder_7d493 : ByteArray := prog_12_method_152_code
def yJ0_coder_7d493 : MethodName := ⟨RJ0, "coder", "()B"⟩
abbrev cJ0_isLatin1_aae02 : ByteArray := prog_12_method_154_code
def yJ0_isLatin1_aae02 : MethodName := ⟨RJ0, "isLatin1", "()Z"⟩
abbrev cJ0_checkIndex_df160 : ByteArray := prog_12_method_155_code
def yJ0_checkIndex_df160 : MethodName := ⟨RJ0, "checkIndex", "(II)V"⟩
def RJ1 : String := "java/lang/StringLatin1"
def TJ1 : u_T := fun k => match k with
  | _ => ("", "", "", false)
def tyJ1 : Nat → FieldType := fun k => match k with
  | _ => .int
abbrev wsJ10 : List Cond := u_ws RJ1 TJ1 0
theorem nmJ1 : ∀ a, a < 0 → ∀ b, b < 0 → a ≠ b → (TJ1 a).2.1 ≠ (TJ1 b).2.1 := by decide +kernel
theorem tyJ1_ok : ∀ k, k < 0 → parseFieldDescriptor (TJ1 k).2.2.1 = some (tyJ1 k) := by decide +kernel
abbrev cJ1_charAt_3b067 : ByteArray := prog_13_method_2_code
def yJ1_charAt_3b067 : MethodName := ⟨RJ1, "charAt", "([BI)C"⟩
def RJ2 : String := "java/lang/StringUTF16"
def TJ2 : u_T := fun k => match k with
  | _ => ("", "", "", false)
def tyJ2 : Nat → FieldType := fun k => match k with
  | _ => .int
abbrev wsJ20 : List Cond := u_ws RJ2 TJ2 0
theorem nmJ2 : ∀ a, a < 0 → ∀ b, b < 0 → a ≠ b → (TJ2 a).2.1 ≠ (TJ2 b).2.1 := by decide +kernel
theorem tyJ2_ok : ∀ k, k < 0 → parseFieldDescriptor (TJ2 k).2.2.1 = some (tyJ2 k) := by decide +kernel
abbrev cJ2_getChar_3b067 : ByteArray := prog_14_method_5_code
def yJ2_getChar_3b067 : MethodName := ⟨RJ2, "getChar", "([BI)C"⟩
abbrev cJ2_length_9d52b : ByteArray := prog_14_method_6_code
def yJ2_length_9d52b : MethodName := ⟨RJ2, "length", "([B)I"⟩
abbrev cJ2_charAt_3b067 : ByteArray := prog_14_method_83_code
def yJ2_charAt_3b067 : MethodName := ⟨RJ2, "charAt", "([BI)C"⟩
abbrev cJ2_checkIndex_2214a : ByteArray := prog_14_method_91_code
def yJ2_checkIndex_2214a : MethodName := ⟨RJ2, "checkIndex", "(I[B)V"⟩
def RJ10 : String := "java/lang/System"
def TJ10 : u_T := fun k => match k with
  | _ => ("", "", "", false)
def tyJ10 : Nat → FieldType := fun k => match k with
  | _ => .int
abbrev wsJ100 : List Cond := u_ws RJ10 TJ10 0
theorem nmJ10 : ∀ a, a < 0 → ∀ b, b < 0 → a ≠ b → (TJ10 a).2.1 ≠ (TJ10 b).2.1 := by decide +kernel
theorem tyJ10_ok : ∀ k, k < 0 → parseFieldDescriptor (TJ10 k).2.2.1 = some (tyJ10 k) := by decide +kernel
def RJ7 : String := "java/util/Arrays"
def TJ7 : u_T := fun k => match k with
  | _ => ("", "", "", false)
def tyJ7 : Nat → FieldType := fun k => match k with
  | _ => .int
abbrev wsJ70 : List Cond := u_ws RJ7 TJ7 0
theorem nmJ7 : ∀ a, a < 0 → ∀ b, b < 0 → a ≠ b → (TJ7 a).2.1 ≠ (TJ7 b).2.1 := by decide +kernel
theorem tyJ7_ok : ∀ k, k < 0 → parseFieldDescriptor (TJ7 k).2.2.1 = some (tyJ7 k) := by decide +kernel
abbrev cJ7_fill_53178 : ByteArray := prog_16_method_103_code
def yJ7_fill_53178 : MethodName := ⟨RJ7, "fill", "([II)V"⟩
def RJ3 : String := "jdk/internal/util/Preconditions"
def TJ3 : u_T := fun k => match k with
  | _ => ("", "", "", false)
def tyJ3 : Nat → FieldType := fun k => match k with
  | _ => .int
abbrev wsJ30 : List Cond := u_ws RJ3 TJ3 0
theorem nmJ3 : ∀ a, a < 0 → ∀ b, b < 0 → a ≠ b → (TJ3 a).2.1 ≠ (TJ3 b).2.1 := by decide +kernel
theorem tyJ3_ok : ∀ k, k < 0 → parseFieldDescriptor (TJ3 k).2.2.1 = some (tyJ3 k) := by decide +kernel
abbrev cJ3_checkIndex_8e157 : ByteArray := prog_17_method_11_code
def yJ3_checkIndex_8e157 : MethodName := ⟨RJ3, "checkIndex", "(IILjava/util/function/BiFunction;)I"⟩
def RL : String := "FirstCartLaw"
abbrev cL_law : ByteArray := code
def yL_law : MethodName := ⟨RL, "law", "([I)Z"⟩
abbrev vwCl : List vw_C := [(RX0, TX0, 3), (RX1, TX1, 2), (RX2, TX2, 1), (RX3, TX3, 12), (RX4, TX4, 8), (RX5, TX5, 4), (RX6, TX6, 9), (RX7, TX7, 35)]
end
section
theorem dX0_init_0 : decode cX0_init 0 = .ok (.aload_n 0, 1) := by decide +kernel
theorem dX0_init_1 : decode cX0_init 1 = .ok (.invokespecial 3, 3) := by decide +kernel
theorem dX0_init_4 : decode cX0_init 4 = .ok (.aload_n 0, 1) := by decide +kernel
theorem dX0_init_5 : decode cX0_init 5 = .ok (.bipush 24, 2) := by decide +kernel
theorem dX0_init_7 : decode cX0_init 7 = .ok (.newarray .int, 2) := by decide +kernel
theorem dX0_init_9 : decode cX0_init 9 = .ok (.putfield 9, 3) := by decide +kernel
theorem dX0_init_12 : decode cX0_init 12 = .ok (.aload_n 0, 1) := by decide +kernel
theorem dX0_init_13 : decode cX0_init 13 = .ok (.bipush 24, 2) := by decide +kernel
theorem dX0_init_15 : decode cX0_init 15 = .ok (.newarray .int, 2) := by decide +kernel
theorem dX0_init_17 : decode cX0_init 17 = .ok (.putfield 15, 3) := by decide +kernel
theorem dX0_init_20 : decode cX0_init 20 = .ok (.return_, 1) := by decide +kernel
theorem dX0_keep_0 : decode cX0_keep 0 = .ok (.aload_n 0, 1) := by decide +kernel
theorem dX0_keep_1 : decode cX0_keep 1 = .ok (.getfield 18, 3) := by decide +kernel
theorem dX0_keep_4 : decode cX0_keep 4 = .ok (.bipush 24, 2) := by decide +kernel
theorem dX0_keep_6 : decode cX0_keep 6 = .ok (.if_icmp .ne 47, 3) := by decide +kernel
theorem dX0_keep_9 : decode cX0_keep 9 = .ok (.aload_n 0, 1) := by decide +kernel
theorem dX0_keep_10 : decode cX0_keep 10 = .ok (.dup, 1) := by decide +kernel
theorem dX0_keep_11 : decode cX0_keep 11 = .ok (.getfield 18, 3) := by decide +kernel
theorem dX0_keep_14 : decode cX0_keep 14 = .ok (.iconst 1, 1) := by decide +kernel
theorem dX0_keep_15 : decode cX0_keep 15 = .ok (.isub, 1) := by decide +kernel
theorem dX0_keep_16 : decode cX0_keep 16 = .ok (.putfield 18, 3) := by decide +kernel
theorem dX0_keep_19 : decode cX0_keep 19 = .ok (.aload_n 0, 1) := by decide +kernel
theorem dX0_keep_20 : decode cX0_keep 20 = .ok (.getfield 9, 3) := by decide +kernel
theorem dX0_keep_23 : decode cX0_keep 23 = .ok (.iconst 1, 1) := by decide +kernel
theorem dX0_keep_24 : decode cX0_keep 24 = .ok (.aload_n 0, 1) := by decide +kernel
theorem dX0_keep_25 : decode cX0_keep 25 = .ok (.getfield 9, 3) := by decide +kernel
theorem dX0_keep_28 : decode cX0_keep 28 = .ok (.iconst 0, 1) := by decide +kernel
theorem dX0_keep_29 : decode cX0_keep 29 = .ok (.aload_n 0, 1) := by decide +kernel
theorem dX0_keep_30 : decode cX0_keep 30 = .ok (.getfield 18, 3) := by decide +kernel
theorem dX0_keep_33 : decode cX0_keep 33 = .ok (.invokestatic 22, 3) := by decide +kernel
theorem dX0_keep_36 : decode cX0_keep 36 = .ok (.aload_n 0, 1) := by decide +kernel
theorem dX0_keep_37 : decode cX0_keep 37 = .ok (.getfield 15, 3) := by decide +kernel
theorem dX0_keep_40 : decode cX0_keep 40 = .ok (.iconst 1, 1) := by decide +kernel
theorem dX0_keep_41 : decode cX0_keep 41 = .ok (.aload_n 0, 1) := by decide +kernel
theorem dX0_keep_42 : decode cX0_keep 42 = .ok (.getfield 15, 3) := by decide +kernel
theorem dX0_keep_45 : decode cX0_keep 45 = .ok (.iconst 0, 1) := by decide +kernel
theorem dX0_keep_46 : decode cX0_keep 46 = .ok (.aload_n 0, 1) := by decide +kernel
theorem dX0_keep_47 : decode cX0_keep 47 = .ok (.getfield 18, 3) := by decide +kernel
theorem dX0_keep_50 : decode cX0_keep 50 = .ok (.invokestatic 22, 3) := by decide +kernel
theorem dX0_keep_53 : decode cX0_keep 53 = .ok (.aload_n 0, 1) := by decide +kernel
theorem dX0_keep_54 : decode cX0_keep 54 = .ok (.getfield 9, 3) := by decide +kernel
theorem dX0_keep_57 : decode cX0_keep 57 = .ok (.aload_n 0, 1) := by decide +kernel
theorem dX0_keep_58 : decode cX0_keep 58 = .ok (.getfield 18, 3) := by decide +kernel
theorem dX0_keep_61 : decode cX0_keep 61 = .ok (.iload_n 1, 1) := by decide +kernel
theorem dX0_keep_62 : decode cX0_keep 62 = .ok (.iastore, 1) := by decide +kernel
theorem dX0_keep_63 : decode cX0_keep 63 = .ok (.aload_n 0, 1) := by decide +kernel
theorem dX0_keep_64 : decode cX0_keep 64 = .ok (.getfield 15, 3) := by decide +kernel
theorem dX0_keep_67 : decode cX0_keep 67 = .ok (.aload_n 0, 1) := by decide +kernel
theorem dX0_keep_68 : decode cX0_keep 68 = .ok (.getfield 18, 3) := by decide +kernel
theorem dX0_keep_71 : decode cX0_keep 71 = .ok (.iload_n 2, 1) := by decide +kernel
theorem dX0_keep_72 : decode cX0_keep 72 = .ok (.iastore, 1) := by decide +kernel
theorem dX0_keep_73 : decode cX0_keep 73 = .ok (.aload_n 0, 1) := by decide +kernel
theorem dX0_keep_74 : decode cX0_keep 74 = .ok (.dup, 1) := by decide +kernel
theorem dX0_keep_75 : decode cX0_keep 75 = .ok (.getfield 18, 3) := by decide +kernel
theorem dX0_keep_78 : decode cX0_keep 78 = .ok (.iconst 1, 1) := by decide +kernel
theorem dX0_keep_79 : decode cX0_keep 79 = .ok (.iadd, 1) := by decide +kernel
theorem dX0_keep_80 : decode cX0_keep 80 = .ok (.putfield 18, 3) := by decide +kernel
theorem dX0_keep_83 : decode cX0_keep 83 = .ok (.return_, 1) := by decide +kernel
theorem dX1_init_0 : decode cX1_init 0 = .ok (.aload_n 0, 1) := by decide +kernel
theorem dX1_init_1 : decode cX1_init 1 = .ok (.invokespecial 3, 3) := by decide +kernel
theorem dX1_init_4 : decode cX1_init 4 = .ok (.aload_n 0, 1) := by decide +kernel
theorem dX1_init_5 : decode cX1_init 5 = .ok (.bipush 16, 2) := by decide +kernel
theorem dX1_init_7 : decode cX1_init 7 = .ok (.newarray .int, 2) := by decide +kernel
theorem dX1_init_9 : decode cX1_init 9 = .ok (.putfield 9, 3) := by decide +kernel
theorem dX1_init_12 : decode cX1_init 12 = .ok (.return_, 1) := by decide +kernel
theorem dX1_begin_0 : decode cX1_begin 0 = .ok (.aload_n 0, 1) := by decide +kernel
theorem dX1_begin_1 : decode cX1_begin 1 = .ok (.iconst 0, 1) := by decide +kernel
theorem dX1_begin_2 : decode cX1_begin 2 = .ok (.putfield 15, 3) := by decide +kernel
theorem dX1_begin_5 : decode cX1_begin 5 = .ok (.aload_n 0, 1) := by decide +kernel
theorem dX1_begin_6 : decode cX1_begin 6 = .ok (.aload_n 1, 1) := by decide +kernel
theorem dX1_begin_7 : decode cX1_begin 7 = .ok (.iload_n 2, 1) := by decide +kernel
theorem dX1_begin_8 : decode cX1_begin 8 = .ok (.aload_n 3, 1) := by decide +kernel
theorem dX1_begin_9 : decode cX1_begin 9 = .ok (.aload_n 1, 1) := by decide +kernel
theorem dX1_begin_10 : decode cX1_begin 10 = .ok (.getfield 19, 3) := by decide +kernel
theorem dX1_begin_13 : decode cX1_begin 13 = .ok (.iload_n 2, 1) := by decide +kernel
theorem dX1_begin_14 : decode cX1_begin 14 = .ok (.iaload, 1) := by decide +kernel
theorem dX1_begin_15 : decode cX1_begin 15 = .ok (.invokestatic 24, 3) := by decide +kernel
theorem dX1_begin_18 : decode cX1_begin 18 = .ok (.iconst 0, 1) := by decide +kernel
theorem dX1_begin_19 : decode cX1_begin 19 = .ok (.invokevirtual 28, 3) := by decide +kernel
theorem dX1_begin_22 : decode cX1_begin 22 = .ok (.ireturn, 1) := by decide +kernel
theorem dX1_answer_0 : decode cX1_answer 0 = .ok (.iload 4, 2) := by decide +kernel
theorem dX1_answer_2 : decode cX1_answer 2 = .ok (.bipush 16, 2) := by decide +kernel
theorem dX1_answer_4 : decode cX1_answer 4 = .ok (.if_icmp .le 5, 3) := by decide +kernel
theorem dX1_answer_7 : decode cX1_answer 7 = .ok (.iconst 0, 1) := by decide +kernel
theorem dX1_answer_8 : decode cX1_answer 8 = .ok (.ireturn, 1) := by decide +kernel
theorem dX1_answer_9 : decode cX1_answer 9 = .ok (.aload_n 0, 1) := by decide +kernel
theorem dX1_answer_10 : decode cX1_answer 10 = .ok (.getfield 15, 3) := by decide +kernel
theorem dX1_answer_13 : decode cX1_answer 13 = .ok (.bipush 16, 2) := by decide +kernel
theorem dX1_answer_15 : decode cX1_answer 15 = .ok (.if_icmp .ge 23, 3) := by decide +kernel
theorem dX1_answer_18 : decode cX1_answer 18 = .ok (.aload_n 0, 1) := by decide +kernel
theorem dX1_answer_19 : decode cX1_answer 19 = .ok (.getfield 9, 3) := by decide +kernel
theorem dX1_answer_22 : decode cX1_answer 22 = .ok (.aload_n 0, 1) := by decide +kernel
theorem dX1_answer_23 : decode cX1_answer 23 = .ok (.getfield 15, 3) := by decide +kernel
theorem dX1_answer_26 : decode cX1_answer 26 = .ok (.iload_n 3, 1) := by decide +kernel
theorem dX1_answer_27 : decode cX1_answer 27 = .ok (.iastore, 1) := by decide +kernel
theorem dX1_answer_28 : decode cX1_answer 28 = .ok (.aload_n 0, 1) := by decide +kernel
theorem dX1_answer_29 : decode cX1_answer 29 = .ok (.dup, 1) := by decide +kernel
theorem dX1_answer_30 : decode cX1_answer 30 = .ok (.getfield 15, 3) := by decide +kernel
theorem dX1_answer_33 : decode cX1_answer 33 = .ok (.iconst 1, 1) := by decide +kernel
theorem dX1_answer_34 : decode cX1_answer 34 = .ok (.iadd, 1) := by decide +kernel
theorem dX1_answer_35 : decode cX1_answer 35 = .ok (.putfield 15, 3) := by decide +kernel
theorem dX1_answer_38 : decode cX1_answer 38 = .ok (.iload 4, 2) := by decide +kernel
theorem dX1_answer_40 : decode cX1_answer 40 = .ok (.iconst 1, 1) := by decide +kernel
theorem dX1_answer_41 : decode cX1_answer 41 = .ok (.iadd, 1) := by decide +kernel
theorem dX1_answer_42 : decode cX1_answer 42 = .ok (.istore 5, 2) := by decide +kernel
theorem dX1_answer_44 : decode cX1_answer 44 = .ok (.aload_n 1, 1) := by decide +kernel
theorem dX1_answer_45 : decode cX1_answer 45 = .ok (.getfield 19, 3) := by decide +kernel
theorem dX1_answer_48 : decode cX1_answer 48 = .ok (.iload_n 2, 1) := by decide +kernel
theorem dX1_answer_49 : decode cX1_answer 49 = .ok (.iaload, 1) := by decide +kernel
theorem dX1_answer_50 : decode cX1_answer 50 = .ok (.istore 6, 2) := by decide +kernel
theorem dX1_answer_52 : decode cX1_answer 52 = .ok (.iload_n 3, 1) := by decide +kernel
theorem dX1_answer_53 : decode cX1_answer 53 = .ok (.tableswitch 226 10 24 #[75, 82, 110, 123, 137, 226, 226, 226, 226, 226, 150, 152, 170, 185, 213], 75) := by decide +kernel
theorem dX1_answer_128 : decode cX1_answer 128 = .ok (.aload_n 1, 1) := by decide +kernel
theorem dX1_answer_129 : decode cX1_answer 129 = .ok (.getfield 32, 3) := by decide +kernel
theorem dX1_answer_132 : decode cX1_answer 132 = .ok (.iload_n 2, 1) := by decide +kernel
theorem dX1_answer_133 : decode cX1_answer 133 = .ok (.iaload, 1) := by decide +kernel
theorem dX1_answer_134 : decode cX1_answer 134 = .ok (.ireturn, 1) := by decide +kernel
theorem dX1_answer_135 : decode cX1_answer 135 = .ok (.aload_n 0, 1) := by decide +kernel
theorem dX1_answer_136 : decode cX1_answer 136 = .ok (.aload_n 1, 1) := by decide +kernel
theorem dX1_answer_137 : decode cX1_answer 137 = .ok (.iload_n 2, 1) := by decide +kernel
theorem dX1_answer_138 : decode cX1_answer 138 = .ok (.bipush 10, 2) := by decide +kernel
theorem dX1_answer_140 : decode cX1_answer 140 = .ok (.iload 5, 2) := by decide +kernel
theorem dX1_answer_142 : decode cX1_answer 142 = .ok (.invokevirtual 28, 3) := by decide +kernel
theorem dX1_answer_145 : decode cX1_answer 145 = .ok (.aload_n 0, 1) := by decide +kernel
theorem dX1_answer_146 : decode cX1_answer 146 = .ok (.aload_n 1, 1) := by decide +kernel
theorem dX1_answer_147 : decode cX1_answer 147 = .ok (.iload_n 2, 1) := by decide +kernel
theorem dX1_answer_148 : decode cX1_answer 148 = .ok (.getstatic 35, 3) := by decide +kernel
theorem dX1_answer_151 : decode cX1_answer 151 = .ok (.iload 6, 2) := by decide +kernel
theorem dX1_answer_153 : decode cX1_answer 153 = .ok (.invokestatic 24, 3) := by decide +kernel
theorem dX1_answer_156 : decode cX1_answer 156 = .ok (.iload 5, 2) := by decide +kernel
theorem dX1_answer_158 : decode cX1_answer 158 = .ok (.invokevirtual 28, 3) := by decide +kernel
theorem dX1_answer_161 : decode cX1_answer 161 = .ok (.iadd, 1) := by decide +kernel
theorem dX1_answer_162 : decode cX1_answer 162 = .ok (.ireturn, 1) := by decide +kernel
theorem dX1_answer_163 : decode cX1_answer 163 = .ok (.iconst 0, 1) := by decide +kernel
theorem dX1_answer_164 : decode cX1_answer 164 = .ok (.aload_n 0, 1) := by decide +kernel
theorem dX1_answer_165 : decode cX1_answer 165 = .ok (.aload_n 1, 1) := by decide +kernel
theorem dX1_answer_166 : decode cX1_answer 166 = .ok (.iload_n 2, 1) := by decide +kernel
theorem dX1_answer_167 : decode cX1_answer 167 = .ok (.bipush 11, 2) := by decide +kernel
theorem dX1_answer_169 : decode cX1_answer 169 = .ok (.iload 5, 2) := by decide +kernel
theorem dX1_answer_171 : decode cX1_answer 171 = .ok (.invokevirtual 28, 3) := by decide +kernel
theorem dX1_answer_174 : decode cX1_answer 174 = .ok (.isub, 1) := by decide +kernel
theorem dX1_answer_175 : decode cX1_answer 175 = .ok (.ireturn, 1) := by decide +kernel
theorem dX1_answer_176 : decode cX1_answer 176 = .ok (.aload_n 0, 1) := by decide +kernel
theorem dX1_answer_177 : decode cX1_answer 177 = .ok (.aload_n 1, 1) := by decide +kernel
theorem dX1_answer_178 : decode cX1_answer 178 = .ok (.iload_n 2, 1) := by decide +kernel
theorem dX1_answer_179 : decode cX1_answer 179 = .ok (.bipush 10, 2) := by decide +kernel
theorem dX1_answer_181 : decode cX1_answer 181 = .ok (.iload 5, 2) := by decide +kernel
theorem dX1_answer_183 : decode cX1_answer 183 = .ok (.invokevirtual 28, 3) := by decide +kernel
theorem dX1_answer_186 : decode cX1_answer 186 = .ok (.bipush 100, 2) := by decide +kernel
theorem dX1_answer_188 : decode cX1_answer 188 = .ok (.isub, 1) := by decide +kernel
theorem dX1_answer_189 : decode cX1_answer 189 = .ok (.ireturn, 1) := by decide +kernel
theorem dX1_answer_190 : decode cX1_answer 190 = .ok (.iconst 2, 1) := by decide +kernel
theorem dX1_answer_191 : decode cX1_answer 191 = .ok (.aload_n 0, 1) := by decide +kernel
theorem dX1_answer_192 : decode cX1_answer 192 = .ok (.aload_n 1, 1) := by decide +kernel
theorem dX1_answer_193 : decode cX1_answer 193 = .ok (.iload_n 2, 1) := by decide +kernel
theorem dX1_answer_194 : decode cX1_answer 194 = .ok (.bipush 13, 2) := by decide +kernel
theorem dX1_answer_196 : decode cX1_answer 196 = .ok (.iload 5, 2) := by decide +kernel
theorem dX1_answer_198 : decode cX1_answer 198 = .ok (.invokevirtual 28, 3) := by decide +kernel
theorem dX1_answer_201 : decode cX1_answer 201 = .ok (.imul, 1) := by decide +kernel
theorem dX1_answer_202 : decode cX1_answer 202 = .ok (.ireturn, 1) := by decide +kernel
theorem dX1_answer_203 : decode cX1_answer 203 = .ok (.iload_n 2, 1) := by decide +kernel
theorem dX1_answer_204 : decode cX1_answer 204 = .ok (.ireturn, 1) := by decide +kernel
theorem dX1_answer_205 : decode cX1_answer 205 = .ok (.aload_n 0, 1) := by decide +kernel
theorem dX1_answer_206 : decode cX1_answer 206 = .ok (.aload_n 1, 1) := by decide +kernel
theorem dX1_answer_207 : decode cX1_answer 207 = .ok (.iload_n 2, 1) := by decide +kernel
theorem dX1_answer_208 : decode cX1_answer 208 = .ok (.bipush 20, 2) := by decide +kernel
theorem dX1_answer_210 : decode cX1_answer 210 = .ok (.iload 5, 2) := by decide +kernel
theorem dX1_answer_212 : decode cX1_answer 212 = .ok (.invokevirtual 28, 3) := by decide +kernel
theorem dX1_answer_215 : decode cX1_answer 215 = .ok (.aload_n 1, 1) := by decide +kernel
theorem dX1_answer_216 : decode cX1_answer 216 = .ok (.getfield 38, 3) := by decide +kernel
theorem dX1_answer_219 : decode cX1_answer 219 = .ok (.iload_n 2, 1) := by decide +kernel
theorem dX1_answer_220 : decode cX1_answer 220 = .ok (.iaload, 1) := by decide +kernel
theorem dX1_answer_221 : decode cX1_answer 221 = .ok (.iadd, 1) := by decide +kernel
theorem dX1_answer_222 : decode cX1_answer 222 = .ok (.ireturn, 1) := by decide +kernel
theorem dX1_answer_223 : decode cX1_answer 223 = .ok (.aload_n 0, 1) := by decide +kernel
theorem dX1_answer_224 : decode cX1_answer 224 = .ok (.aload_n 1, 1) := by decide +kernel
theorem dX1_answer_225 : decode cX1_answer 225 = .ok (.iload_n 2, 1) := by decide +kernel
theorem dX1_answer_226 : decode cX1_answer 226 = .ok (.bipush 21, 2) := by decide +kernel
theorem dX1_answer_228 : decode cX1_answer 228 = .ok (.iload 5, 2) := by decide +kernel
theorem dX1_answer_230 : decode cX1_answer 230 = .ok (.invokevirtual 28, 3) := by decide +kernel
theorem dX1_answer_233 : decode cX1_answer 233 = .ok (.sipush 1000, 3) := by decide +kernel
theorem dX1_answer_236 : decode cX1_answer 236 = .ok (.isub, 1) := by decide +kernel
theorem dX1_answer_237 : decode cX1_answer 237 = .ok (.ireturn, 1) := by decide +kernel
theorem dX1_answer_238 : decode cX1_answer 238 = .ok (.aload_n 0, 1) := by decide +kernel
theorem dX1_answer_239 : decode cX1_answer 239 = .ok (.aload_n 1, 1) := by decide +kernel
theorem dX1_answer_240 : decode cX1_answer 240 = .ok (.iload_n 2, 1) := by decide +kernel
theorem dX1_answer_241 : decode cX1_answer 241 = .ok (.bipush 20, 2) := by decide +kernel
theorem dX1_answer_243 : decode cX1_answer 243 = .ok (.iload 5, 2) := by decide +kernel
theorem dX1_answer_245 : decode cX1_answer 245 = .ok (.invokevirtual 28, 3) := by decide +kernel
theorem dX1_answer_248 : decode cX1_answer 248 = .ok (.aload_n 0, 1) := by decide +kernel
theorem dX1_answer_249 : decode cX1_answer 249 = .ok (.aload_n 1, 1) := by decide +kernel
theorem dX1_answer_250 : decode cX1_answer 250 = .ok (.iload_n 2, 1) := by decide +kernel
theorem dX1_answer_251 : decode cX1_answer 251 = .ok (.getstatic 41, 3) := by decide +kernel
theorem dX1_answer_254 : decode cX1_answer 254 = .ok (.iload 6, 2) := by decide +kernel
theorem dX1_answer_256 : decode cX1_answer 256 = .ok (.invokestatic 24, 3) := by decide +kernel
theorem dX1_answer_259 : decode cX1_answer 259 = .ok (.iload 5, 2) := by decide +kernel
theorem dX1_answer_261 : decode cX1_answer 261 = .ok (.invokevirtual 28, 3) := by decide +kernel
theorem dX1_answer_264 : decode cX1_answer 264 = .ok (.isub, 1) := by decide +kernel
theorem dX1_answer_265 : decode cX1_answer 265 = .ok (.ireturn, 1) := by decide +kernel
theorem dX1_answer_266 : decode cX1_answer 266 = .ok (.iconst 2, 1) := by decide +kernel
theorem dX1_answer_267 : decode cX1_answer 267 = .ok (.aload_n 0, 1) := by decide +kernel
theorem dX1_answer_268 : decode cX1_answer 268 = .ok (.aload_n 1, 1) := by decide +kernel
theorem dX1_answer_269 : decode cX1_answer 269 = .ok (.iload_n 2, 1) := by decide +kernel
theorem dX1_answer_270 : decode cX1_answer 270 = .ok (.bipush 21, 2) := by decide +kernel
theorem dX1_answer_272 : decode cX1_answer 272 = .ok (.iload 5, 2) := by decide +kernel
theorem dX1_answer_274 : decode cX1_answer 274 = .ok (.invokevirtual 28, 3) := by decide +kernel
theorem dX1_answer_277 : decode cX1_answer 277 = .ok (.imul, 1) := by decide +kernel
theorem dX1_answer_278 : decode cX1_answer 278 = .ok (.ireturn, 1) := by decide +kernel
theorem dX1_answer_279 : decode cX1_answer 279 = .ok (.iconst 0, 1) := by decide +kernel
theorem dX1_answer_280 : decode cX1_answer 280 = .ok (.ireturn, 1) := by decide +kernel
theorem dX2_init_0 : decode cX2_init 0 = .ok (.aload_n 0, 1) := by decide +kernel
theorem dX2_init_1 : decode cX2_init 1 = .ok (.invokespecial 3, 3) := by decide +kernel
theorem dX2_init_4 : decode cX2_init 4 = .ok (.aload_n 0, 1) := by decide +kernel
theorem dX2_init_5 : decode cX2_init 5 = .ok (.new 9, 3) := by decide +kernel
theorem dX2_init_8 : decode cX2_init 8 = .ok (.dup, 1) := by decide +kernel
theorem dX2_init_9 : decode cX2_init 9 = .ok (.invokespecial 11, 3) := by decide +kernel
theorem dX2_init_12 : decode cX2_init 12 = .ok (.putfield 12, 3) := by decide +kernel
theorem dX2_init_15 : decode cX2_init 15 = .ok (.return_, 1) := by decide +kernel
theorem dX2_dayOf_0 : decode cX2_dayOf 0 = .ok (.aload_n 0, 1) := by decide +kernel
theorem dX2_dayOf_1 : decode cX2_dayOf 1 = .ok (.getfield 12, 3) := by decide +kernel
theorem dX2_dayOf_4 : decode cX2_dayOf 4 = .ok (.aload_n 1, 1) := by decide +kernel
theorem dX2_dayOf_5 : decode cX2_dayOf 5 = .ok (.invokevirtual 18, 3) := by decide +kernel
theorem dX2_dayOf_8 : decode cX2_dayOf 8 = .ok (.aload_n 0, 1) := by decide +kernel
theorem dX2_dayOf_9 : decode cX2_dayOf 9 = .ok (.getfield 12, 3) := by decide +kernel
theorem dX2_dayOf_12 : decode cX2_dayOf 12 = .ok (.invokevirtual 22, 3) := by decide +kernel
theorem dX2_dayOf_15 : decode cX2_dayOf 15 = .ok (.aload_n 0, 1) := by decide +kernel
theorem dX2_dayOf_16 : decode cX2_dayOf 16 = .ok (.getfield 12, 3) := by decide +kernel
theorem dX2_dayOf_19 : decode cX2_dayOf 19 = .ok (.areturn, 1) := by decide +kernel
theorem dX2_dayWithBest_0 : decode cX2_dayWithBest 0 = .ok (.aload_n 0, 1) := by decide +kernel
theorem dX2_dayWithBest_1 : decode cX2_dayWithBest 1 = .ok (.getfield 12, 3) := by decide +kernel
theorem dX2_dayWithBest_4 : decode cX2_dayWithBest 4 = .ok (.aload_n 1, 1) := by decide +kernel
theorem dX2_dayWithBest_5 : decode cX2_dayWithBest 5 = .ok (.invokevirtual 18, 3) := by decide +kernel
theorem dX2_dayWithBest_8 : decode cX2_dayWithBest 8 = .ok (.aload_n 0, 1) := by decide +kernel
theorem dX2_dayWithBest_9 : decode cX2_dayWithBest 9 = .ok (.iload_n 2, 1) := by decide +kernel
theorem dX2_dayWithBest_10 : decode cX2_dayWithBest 10 = .ok (.invokevirtual 25, 3) := by decide +kernel
theorem dX2_dayWithBest_13 : decode cX2_dayWithBest 13 = .ok (.pop, 1) := by decide +kernel
theorem dX2_dayWithBest_14 : decode cX2_dayWithBest 14 = .ok (.aload_n 0, 1) := by decide +kernel
theorem dX2_dayWithBest_15 : decode cX2_dayWithBest 15 = .ok (.getfield 12, 3) := by decide +kernel
theorem dX2_dayWithBest_18 : decode cX2_dayWithBest 18 = .ok (.invokevirtual 22, 3) := by decide +kernel
theorem dX2_dayWithBest_21 : decode cX2_dayWithBest 21 = .ok (.aload_n 0, 1) := by decide +kernel
theorem dX2_dayWithBest_22 : decode cX2_dayWithBest 22 = .ok (.getfield 12, 3) := by decide +kernel
theorem dX2_dayWithBest_25 : decode cX2_dayWithBest 25 = .ok (.areturn, 1) := by decide +kernel
theorem dX2_takeBest_0 : decode cX2_takeBest 0 = .ok (.aload_n 0, 1) := by decide +kernel
theorem dX2_takeBest_1 : decode cX2_takeBest 1 = .ok (.getfield 12, 3) := by decide +kernel
theorem dX2_takeBest_4 : decode cX2_takeBest 4 = .ok (.getfield 29, 3) := by decide +kernel
theorem dX2_takeBest_7 : decode cX2_takeBest 7 = .ok (.iload_n 1, 1) := by decide +kernel
theorem dX2_takeBest_8 : decode cX2_takeBest 8 = .ok (.iaload, 1) := by decide +kernel
theorem dX2_takeBest_9 : decode cX2_takeBest 9 = .ok (.istore_n 2, 1) := by decide +kernel
theorem dX2_takeBest_10 : decode cX2_takeBest 10 = .ok (.iconst 0, 1) := by decide +kernel
theorem dX2_takeBest_11 : decode cX2_takeBest 11 = .ok (.istore_n 3, 1) := by decide +kernel
theorem dX2_takeBest_12 : decode cX2_takeBest 12 = .ok (.ldc 33, 2) := by decide +kernel
theorem dX2_takeBest_14 : decode cX2_takeBest 14 = .ok (.istore 4, 2) := by decide +kernel
theorem dX2_takeBest_16 : decode cX2_takeBest 16 = .ok (.iconst 0, 1) := by decide +kernel
theorem dX2_takeBest_17 : decode cX2_takeBest 17 = .ok (.istore 5, 2) := by decide +kernel
theorem dX2_takeBest_19 : decode cX2_takeBest 19 = .ok (.iload 5, 2) := by decide +kernel
theorem dX2_takeBest_21 : decode cX2_takeBest 21 = .ok (.bipush 11, 2) := by decide +kernel
theorem dX2_takeBest_23 : decode cX2_takeBest 23 = .ok (.if_icmp .gt 51, 3) := by decide +kernel
theorem dX2_takeBest_26 : decode cX2_takeBest 26 = .ok (.aload_n 0, 1) := by decide +kernel
theorem dX2_takeBest_27 : decode cX2_takeBest 27 = .ok (.getfield 12, 3) := by decide +kernel
theorem dX2_takeBest_30 : decode cX2_takeBest 30 = .ok (.getfield 29, 3) := by decide +kernel
theorem dX2_takeBest_33 : decode cX2_takeBest 33 = .ok (.iload_n 1, 1) := by decide +kernel
theorem dX2_takeBest_34 : decode cX2_takeBest 34 = .ok (.iload 5, 2) := by decide +kernel
theorem dX2_takeBest_36 : decode cX2_takeBest 36 = .ok (.iastore, 1) := by decide +kernel
theorem dX2_takeBest_37 : decode cX2_takeBest 37 = .ok (.aload_n 0, 1) := by decide +kernel
theorem dX2_takeBest_38 : decode cX2_takeBest 38 = .ok (.getfield 12, 3) := by decide +kernel
theorem dX2_takeBest_41 : decode cX2_takeBest 41 = .ok (.invokevirtual 22, 3) := by decide +kernel
theorem dX2_takeBest_44 : decode cX2_takeBest 44 = .ok (.aload_n 0, 1) := by decide +kernel
theorem dX2_takeBest_45 : decode cX2_takeBest 45 = .ok (.getfield 12, 3) := by decide +kernel
theorem dX2_takeBest_48 : decode cX2_takeBest 48 = .ok (.iload_n 1, 1) := by decide +kernel
theorem dX2_takeBest_49 : decode cX2_takeBest 49 = .ok (.invokevirtual 34, 3) := by decide +kernel
theorem dX2_takeBest_52 : decode cX2_takeBest 52 = .ok (.istore 6, 2) := by decide +kernel
theorem dX2_takeBest_54 : decode cX2_takeBest 54 = .ok (.iload 6, 2) := by decide +kernel
theorem dX2_takeBest_56 : decode cX2_takeBest 56 = .ok (.iload 4, 2) := by decide +kernel
theorem dX2_takeBest_58 : decode cX2_takeBest 58 = .ok (.if_icmp .ge 10, 3) := by decide +kernel
theorem dX2_takeBest_61 : decode cX2_takeBest 61 = .ok (.iload 6, 2) := by decide +kernel
theorem dX2_takeBest_63 : decode cX2_takeBest 63 = .ok (.istore 4, 2) := by decide +kernel
theorem dX2_takeBest_65 : decode cX2_takeBest 65 = .ok (.iload 5, 2) := by decide +kernel
theorem dX2_takeBest_67 : decode cX2_takeBest 67 = .ok (.istore_n 3, 1) := by decide +kernel
theorem dX2_takeBest_68 : decode cX2_takeBest 68 = .ok (.iinc 5 1, 3) := by decide +kernel
theorem dX2_takeBest_71 : decode cX2_takeBest 71 = .ok (.goto (-52), 3) := by decide +kernel
theorem dX2_takeBest_74 : decode cX2_takeBest 74 = .ok (.aload_n 0, 1) := by decide +kernel
theorem dX2_takeBest_75 : decode cX2_takeBest 75 = .ok (.getfield 12, 3) := by decide +kernel
theorem dX2_takeBest_78 : decode cX2_takeBest 78 = .ok (.getfield 29, 3) := by decide +kernel
theorem dX2_takeBest_81 : decode cX2_takeBest 81 = .ok (.iload_n 1, 1) := by decide +kernel
theorem dX2_takeBest_82 : decode cX2_takeBest 82 = .ok (.iload_n 3, 1) := by decide +kernel
theorem dX2_takeBest_83 : decode cX2_takeBest 83 = .ok (.iastore, 1) := by decide +kernel
theorem dX2_takeBest_84 : decode cX2_takeBest 84 = .ok (.iload_n 3, 1) := by decide +kernel
theorem dX2_takeBest_85 : decode cX2_takeBest 85 = .ok (.iload_n 2, 1) := by decide +kernel
theorem dX2_takeBest_86 : decode cX2_takeBest 86 = .ok (.if_icmp .eq 7, 3) := by decide +kernel
theorem dX2_takeBest_89 : decode cX2_takeBest 89 = .ok (.iconst 1, 1) := by decide +kernel
theorem dX2_takeBest_90 : decode cX2_takeBest 90 = .ok (.goto 4, 3) := by decide +kernel
theorem dX2_takeBest_93 : decode cX2_takeBest 93 = .ok (.iconst 0, 1) := by decide +kernel
theorem dX2_takeBest_94 : decode cX2_takeBest 94 = .ok (.ireturn, 1) := by decide +kernel
theorem dX2_roundsToRest_0 : decode cX2_roundsToRest 0 = .ok (.aload_n 0, 1) := by decide +kernel
theorem dX2_roundsToRest_1 : decode cX2_roundsToRest 1 = .ok (.getfield 12, 3) := by decide +kernel
theorem dX2_roundsToRest_4 : decode cX2_roundsToRest 4 = .ok (.aload_n 1, 1) := by decide +kernel
theorem dX2_roundsToRest_5 : decode cX2_roundsToRest 5 = .ok (.invokevirtual 18, 3) := by decide +kernel
theorem dX2_roundsToRest_8 : decode cX2_roundsToRest 8 = .ok (.iconst 1, 1) := by decide +kernel
theorem dX2_roundsToRest_9 : decode cX2_roundsToRest 9 = .ok (.istore_n 2, 1) := by decide +kernel
theorem dX2_roundsToRest_10 : decode cX2_roundsToRest 10 = .ok (.iload_n 2, 1) := by decide +kernel
theorem dX2_roundsToRest_11 : decode cX2_roundsToRest 11 = .ok (.bipush 20, 2) := by decide +kernel
theorem dX2_roundsToRest_13 : decode cX2_roundsToRest 13 = .ok (.if_icmp .gt 49, 3) := by decide +kernel
theorem dX2_roundsToRest_16 : decode cX2_roundsToRest 16 = .ok (.iconst 0, 1) := by decide +kernel
theorem dX2_roundsToRest_17 : decode cX2_roundsToRest 17 = .ok (.istore_n 3, 1) := by decide +kernel
theorem dX2_roundsToRest_18 : decode cX2_roundsToRest 18 = .ok (.iconst 0, 1) := by decide +kernel
theorem dX2_roundsToRest_19 : decode cX2_roundsToRest 19 = .ok (.istore 4, 2) := by decide +kernel
theorem dX2_roundsToRest_21 : decode cX2_roundsToRest 21 = .ok (.iload 4, 2) := by decide +kernel
theorem dX2_roundsToRest_23 : decode cX2_roundsToRest 23 = .ok (.aload_n 0, 1) := by decide +kernel
theorem dX2_roundsToRest_24 : decode cX2_roundsToRest 24 = .ok (.getfield 12, 3) := by decide +kernel
theorem dX2_roundsToRest_27 : decode cX2_roundsToRest 27 = .ok (.getfield 38, 3) := by decide +kernel
theorem dX2_roundsToRest_30 : decode cX2_roundsToRest 30 = .ok (.if_icmp .ge 20, 3) := by decide +kernel
theorem dX2_roundsToRest_33 : decode cX2_roundsToRest 33 = .ok (.aload_n 0, 1) := by decide +kernel
theorem dX2_roundsToRest_34 : decode cX2_roundsToRest 34 = .ok (.iload 4, 2) := by decide +kernel
theorem dX2_roundsToRest_36 : decode cX2_roundsToRest 36 = .ok (.invokevirtual 25, 3) := by decide +kernel
theorem dX2_roundsToRest_39 : decode cX2_roundsToRest 39 = .ok (.ifCond .eq 5, 3) := by decide +kernel
theorem dX2_roundsToRest_42 : decode cX2_roundsToRest 42 = .ok (.iconst 1, 1) := by decide +kernel
theorem dX2_roundsToRest_43 : decode cX2_roundsToRest 43 = .ok (.istore_n 3, 1) := by decide +kernel
theorem dX2_roundsToRest_44 : decode cX2_roundsToRest 44 = .ok (.iinc 4 1, 3) := by decide +kernel
theorem dX2_roundsToRest_47 : decode cX2_roundsToRest 47 = .ok (.goto (-26), 3) := by decide +kernel
theorem dX2_roundsToRest_50 : decode cX2_roundsToRest 50 = .ok (.iload_n 3, 1) := by decide +kernel
theorem dX2_roundsToRest_51 : decode cX2_roundsToRest 51 = .ok (.ifCond .ne 5, 3) := by decide +kernel
theorem dX2_roundsToRest_54 : decode cX2_roundsToRest 54 = .ok (.iload_n 2, 1) := by decide +kernel
theorem dX2_roundsToRest_55 : decode cX2_roundsToRest 55 = .ok (.ireturn, 1) := by decide +kernel
theorem dX2_roundsToRest_56 : decode cX2_roundsToRest 56 = .ok (.iinc 2 1, 3) := by decide +kernel
theorem dX2_roundsToRest_59 : decode cX2_roundsToRest 59 = .ok (.goto (-49), 3) := by decide +kernel
theorem dX2_roundsToRest_62 : decode cX2_roundsToRest 62 = .ok (.ldc 42, 2) := by decide +kernel
theorem dX2_roundsToRest_64 : decode cX2_roundsToRest 64 = .ok (.ireturn, 1) := by decide +kernel
theorem dX2_patiencesToGoIn_0 : decode cX2_patiencesToGoIn 0 = .ok (.aload_n 0, 1) := by decide +kernel
theorem dX2_patiencesToGoIn_1 : decode cX2_patiencesToGoIn 1 = .ok (.getfield 12, 3) := by decide +kernel
theorem dX2_patiencesToGoIn_4 : decode cX2_patiencesToGoIn 4 = .ok (.aload_n 1, 1) := by decide +kernel
theorem dX2_patiencesToGoIn_5 : decode cX2_patiencesToGoIn 5 = .ok (.invokevirtual 18, 3) := by decide +kernel
theorem dX2_patiencesToGoIn_8 : decode cX2_patiencesToGoIn 8 = .ok (.iconst 0, 1) := by decide +kernel
theorem dX2_patiencesToGoIn_9 : decode cX2_patiencesToGoIn 9 = .ok (.istore 4, 2) := by decide +kernel
theorem dX2_patiencesToGoIn_11 : decode cX2_patiencesToGoIn 11 = .ok (.iconst 0, 1) := by decide +kernel
theorem dX2_patiencesToGoIn_12 : decode cX2_patiencesToGoIn 12 = .ok (.istore 5, 2) := by decide +kernel
theorem dX2_patiencesToGoIn_14 : decode cX2_patiencesToGoIn 14 = .ok (.iload 5, 2) := by decide +kernel
theorem dX2_patiencesToGoIn_16 : decode cX2_patiencesToGoIn 16 = .ok (.bipush 11, 2) := by decide +kernel
theorem dX2_patiencesToGoIn_18 : decode cX2_patiencesToGoIn 18 = .ok (.if_icmp .gt 49, 3) := by decide +kernel
theorem dX2_patiencesToGoIn_21 : decode cX2_patiencesToGoIn 21 = .ok (.aload_n 0, 1) := by decide +kernel
theorem dX2_patiencesToGoIn_22 : decode cX2_patiencesToGoIn 22 = .ok (.getfield 12, 3) := by decide +kernel
theorem dX2_patiencesToGoIn_25 : decode cX2_patiencesToGoIn 25 = .ok (.getfield 29, 3) := by decide +kernel
theorem dX2_patiencesToGoIn_28 : decode cX2_patiencesToGoIn 28 = .ok (.iload_n 2, 1) := by decide +kernel
theorem dX2_patiencesToGoIn_29 : decode cX2_patiencesToGoIn 29 = .ok (.iload 5, 2) := by decide +kernel
theorem dX2_patiencesToGoIn_31 : decode cX2_patiencesToGoIn 31 = .ok (.iastore, 1) := by decide +kernel
theorem dX2_patiencesToGoIn_32 : decode cX2_patiencesToGoIn 32 = .ok (.aload_n 0, 1) := by decide +kernel
theorem dX2_patiencesToGoIn_33 : decode cX2_patiencesToGoIn 33 = .ok (.getfield 12, 3) := by decide +kernel
theorem dX2_patiencesToGoIn_36 : decode cX2_patiencesToGoIn 36 = .ok (.invokevirtual 22, 3) := by decide +kernel
theorem dX2_patiencesToGoIn_39 : decode cX2_patiencesToGoIn 39 = .ok (.aload_n 0, 1) := by decide +kernel
theorem dX2_patiencesToGoIn_40 : decode cX2_patiencesToGoIn 40 = .ok (.getfield 12, 3) := by decide +kernel
theorem dX2_patiencesToGoIn_43 : decode cX2_patiencesToGoIn 43 = .ok (.getfield 43, 3) := by decide +kernel
theorem dX2_patiencesToGoIn_46 : decode cX2_patiencesToGoIn 46 = .ok (.iload_n 2, 1) := by decide +kernel
theorem dX2_patiencesToGoIn_47 : decode cX2_patiencesToGoIn 47 = .ok (.iaload, 1) := by decide +kernel
theorem dX2_patiencesToGoIn_48 : decode cX2_patiencesToGoIn 48 = .ok (.iload_n 3, 1) := by decide +kernel
theorem dX2_patiencesToGoIn_49 : decode cX2_patiencesToGoIn 49 = .ok (.if_icmp .ne 12, 3) := by decide +kernel
theorem dX2_patiencesToGoIn_52 : decode cX2_patiencesToGoIn 52 = .ok (.iload 4, 2) := by decide +kernel
theorem dX2_patiencesToGoIn_54 : decode cX2_patiencesToGoIn 54 = .ok (.iconst 1, 1) := by decide +kernel
theorem dX2_patiencesToGoIn_55 : decode cX2_patiencesToGoIn 55 = .ok (.iload 5, 2) := by decide +kernel
theorem dX2_patiencesToGoIn_57 : decode cX2_patiencesToGoIn 57 = .ok (.ishl, 1) := by decide +kernel
theorem dX2_patiencesToGoIn_58 : decode cX2_patiencesToGoIn 58 = .ok (.ior, 1) := by decide +kernel
theorem dX2_patiencesToGoIn_59 : decode cX2_patiencesToGoIn 59 = .ok (.istore 4, 2) := by decide +kernel
theorem dX2_patiencesToGoIn_61 : decode cX2_patiencesToGoIn 61 = .ok (.iinc 5 1, 3) := by decide +kernel
theorem dX2_patiencesToGoIn_64 : decode cX2_patiencesToGoIn 64 = .ok (.goto (-50), 3) := by decide +kernel
theorem dX2_patiencesToGoIn_67 : decode cX2_patiencesToGoIn 67 = .ok (.iload 4, 2) := by decide +kernel
theorem dX2_patiencesToGoIn_69 : decode cX2_patiencesToGoIn 69 = .ok (.ireturn, 1) := by decide +kernel
theorem dX2_whenOfTwo_0 : decode cX2_whenOfTwo 0 = .ok (.aload_n 1, 1) := by decide +kernel
theorem dX2_whenOfTwo_1 : decode cX2_whenOfTwo 1 = .ok (.iconst 2, 1) := by decide +kernel
theorem dX2_whenOfTwo_2 : decode cX2_whenOfTwo 2 = .ok (.invokevirtual 46, 3) := by decide +kernel
theorem dX2_whenOfTwo_5 : decode cX2_whenOfTwo 5 = .ok (.istore 6, 2) := by decide +kernel
theorem dX2_whenOfTwo_7 : decode cX2_whenOfTwo 7 = .ok (.iload 6, 2) := by decide +kernel
theorem dX2_whenOfTwo_9 : decode cX2_whenOfTwo 9 = .ok (.istore 7, 2) := by decide +kernel
theorem dX2_whenOfTwo_11 : decode cX2_whenOfTwo 11 = .ok (.iconst 0, 1) := by decide +kernel
theorem dX2_whenOfTwo_12 : decode cX2_whenOfTwo 12 = .ok (.istore 8, 2) := by decide +kernel
theorem dX2_whenOfTwo_14 : decode cX2_whenOfTwo 14 = .ok (.bipush 11, 2) := by decide +kernel
theorem dX2_whenOfTwo_16 : decode cX2_whenOfTwo 16 = .ok (.istore 9, 2) := by decide +kernel
theorem dX2_whenOfTwo_18 : decode cX2_whenOfTwo 18 = .ok (.iload_n 2, 1) := by decide +kernel
theorem dX2_whenOfTwo_19 : decode cX2_whenOfTwo 19 = .ok (.istore 10, 2) := by decide +kernel
theorem dX2_whenOfTwo_21 : decode cX2_whenOfTwo 21 = .ok (.bipush 10, 2) := by decide +kernel
theorem dX2_whenOfTwo_23 : decode cX2_whenOfTwo 23 = .ok (.istore 11, 2) := by decide +kernel
theorem dX2_whenOfTwo_25 : decode cX2_whenOfTwo 25 = .ok (.iload 11, 2) := by decide +kernel
theorem dX2_whenOfTwo_27 : decode cX2_whenOfTwo 27 = .ok (.iload 4, 2) := by decide +kernel
theorem dX2_whenOfTwo_29 : decode cX2_whenOfTwo 29 = .ok (.if_icmp .lt 131, 3) := by decide +kernel
theorem dX2_whenOfTwo_32 : decode cX2_whenOfTwo 32 = .ok (.aload_n 1, 1) := by decide +kernel
theorem dX2_whenOfTwo_33 : decode cX2_whenOfTwo 33 = .ok (.getfield 49, 3) := by decide +kernel
theorem dX2_whenOfTwo_36 : decode cX2_whenOfTwo 36 = .ok (.iload_n 2, 1) := by decide +kernel
theorem dX2_whenOfTwo_37 : decode cX2_whenOfTwo 37 = .ok (.iaload, 1) := by decide +kernel
theorem dX2_whenOfTwo_38 : decode cX2_whenOfTwo 38 = .ok (.iload 7, 2) := by decide +kernel
theorem dX2_whenOfTwo_40 : decode cX2_whenOfTwo 40 = .ok (.iadd, 1) := by decide +kernel
theorem dX2_whenOfTwo_41 : decode cX2_whenOfTwo 41 = .ok (.istore 12, 2) := by decide +kernel
theorem dX2_whenOfTwo_43 : decode cX2_whenOfTwo 43 = .ok (.aload_n 1, 1) := by decide +kernel
theorem dX2_whenOfTwo_44 : decode cX2_whenOfTwo 44 = .ok (.getfield 49, 3) := by decide +kernel
theorem dX2_whenOfTwo_47 : decode cX2_whenOfTwo 47 = .ok (.iload_n 3, 1) := by decide +kernel
theorem dX2_whenOfTwo_48 : decode cX2_whenOfTwo 48 = .ok (.iaload, 1) := by decide +kernel
theorem dX2_whenOfTwo_49 : decode cX2_whenOfTwo 49 = .ok (.iload 8, 2) := by decide +kernel
theorem dX2_whenOfTwo_51 : decode cX2_whenOfTwo 51 = .ok (.iadd, 1) := by decide +kernel
theorem dX2_whenOfTwo_52 : decode cX2_whenOfTwo 52 = .ok (.istore 13, 2) := by decide +kernel
theorem dX2_whenOfTwo_54 : decode cX2_whenOfTwo 54 = .ok (.iload 6, 2) := by decide +kernel
theorem dX2_whenOfTwo_56 : decode cX2_whenOfTwo 56 = .ok (.iload 13, 2) := by decide +kernel
theorem dX2_whenOfTwo_58 : decode cX2_whenOfTwo 58 = .ok (.if_icmp .gt 7, 3) := by decide +kernel
theorem dX2_whenOfTwo_61 : decode cX2_whenOfTwo 61 = .ok (.iconst 1, 1) := by decide +kernel
theorem dX2_whenOfTwo_62 : decode cX2_whenOfTwo 62 = .ok (.goto 4, 3) := by decide +kernel
theorem dX2_whenOfTwo_65 : decode cX2_whenOfTwo 65 = .ok (.iconst 0, 1) := by decide +kernel
theorem dX2_whenOfTwo_66 : decode cX2_whenOfTwo 66 = .ok (.istore 14, 2) := by decide +kernel
theorem dX2_whenOfTwo_68 : decode cX2_whenOfTwo 68 = .ok (.iload 6, 2) := by decide +kernel
theorem dX2_whenOfTwo_70 : decode cX2_whenOfTwo 70 = .ok (.iload 14, 2) := by decide +kernel
theorem dX2_whenOfTwo_72 : decode cX2_whenOfTwo 72 = .ok (.ifCond .eq 7, 3) := by decide +kernel
theorem dX2_whenOfTwo_75 : decode cX2_whenOfTwo 75 = .ok (.iconst 0, 1) := by decide +kernel
theorem dX2_whenOfTwo_76 : decode cX2_whenOfTwo 76 = .ok (.goto 5, 3) := by decide +kernel
theorem dX2_whenOfTwo_79 : decode cX2_whenOfTwo 79 = .ok (.iload 12, 2) := by decide +kernel
theorem dX2_whenOfTwo_81 : decode cX2_whenOfTwo 81 = .ok (.if_icmp .gt 7, 3) := by decide +kernel
theorem dX2_whenOfTwo_84 : decode cX2_whenOfTwo 84 = .ok (.iconst 1, 1) := by decide +kernel
theorem dX2_whenOfTwo_85 : decode cX2_whenOfTwo 85 = .ok (.goto 4, 3) := by decide +kernel
theorem dX2_whenOfTwo_88 : decode cX2_whenOfTwo 88 = .ok (.iconst 0, 1) := by decide +kernel
theorem dX2_whenOfTwo_89 : decode cX2_whenOfTwo 89 = .ok (.istore 15, 2) := by decide +kernel
theorem dX2_whenOfTwo_91 : decode cX2_whenOfTwo 91 = .ok (.iload 15, 2) := by decide +kernel
theorem dX2_whenOfTwo_93 : decode cX2_whenOfTwo 93 = .ok (.ifCond .ne 8, 3) := by decide +kernel
theorem dX2_whenOfTwo_96 : decode cX2_whenOfTwo 96 = .ok (.iload 14, 2) := by decide +kernel
theorem dX2_whenOfTwo_98 : decode cX2_whenOfTwo 98 = .ok (.ifCond .eq 48, 3) := by decide +kernel
theorem dX2_whenOfTwo_101 : decode cX2_whenOfTwo 101 = .ok (.iload 11, 2) := by decide +kernel
theorem dX2_whenOfTwo_103 : decode cX2_whenOfTwo 103 = .ok (.istore 9, 2) := by decide +kernel
theorem dX2_whenOfTwo_105 : decode cX2_whenOfTwo 105 = .ok (.iload 15, 2) := by decide +kernel
theorem dX2_whenOfTwo_107 : decode cX2_whenOfTwo 107 = .ok (.ifCond .eq 7, 3) := by decide +kernel
theorem dX2_whenOfTwo_110 : decode cX2_whenOfTwo 110 = .ok (.iload_n 2, 1) := by decide +kernel
theorem dX2_whenOfTwo_111 : decode cX2_whenOfTwo 111 = .ok (.goto 4, 3) := by decide +kernel
theorem dX2_whenOfTwo_114 : decode cX2_whenOfTwo 114 = .ok (.iload_n 3, 1) := by decide +kernel
theorem dX2_whenOfTwo_115 : decode cX2_whenOfTwo 115 = .ok (.istore 10, 2) := by decide +kernel
theorem dX2_whenOfTwo_117 : decode cX2_whenOfTwo 117 = .ok (.iload 15, 2) := by decide +kernel
theorem dX2_whenOfTwo_119 : decode cX2_whenOfTwo 119 = .ok (.ifCond .eq 8, 3) := by decide +kernel
theorem dX2_whenOfTwo_122 : decode cX2_whenOfTwo 122 = .ok (.iload 6, 2) := by decide +kernel
theorem dX2_whenOfTwo_124 : decode cX2_whenOfTwo 124 = .ok (.goto 4, 3) := by decide +kernel
theorem dX2_whenOfTwo_127 : decode cX2_whenOfTwo 127 = .ok (.iconst 0, 1) := by decide +kernel
theorem dX2_whenOfTwo_128 : decode cX2_whenOfTwo 128 = .ok (.istore 7, 2) := by decide +kernel
theorem dX2_whenOfTwo_130 : decode cX2_whenOfTwo 130 = .ok (.iload 15, 2) := by decide +kernel
theorem dX2_whenOfTwo_132 : decode cX2_whenOfTwo 132 = .ok (.ifCond .eq 7, 3) := by decide +kernel
theorem dX2_whenOfTwo_135 : decode cX2_whenOfTwo 135 = .ok (.iconst 0, 1) := by decide +kernel
theorem dX2_whenOfTwo_136 : decode cX2_whenOfTwo 136 = .ok (.goto 5, 3) := by decide +kernel
theorem dX2_whenOfTwo_139 : decode cX2_whenOfTwo 139 = .ok (.iload 6, 2) := by decide +kernel
theorem dX2_whenOfTwo_141 : decode cX2_whenOfTwo 141 = .ok (.istore 8, 2) := by decide +kernel
theorem dX2_whenOfTwo_143 : decode cX2_whenOfTwo 143 = .ok (.goto 11, 3) := by decide +kernel
theorem dX2_whenOfTwo_146 : decode cX2_whenOfTwo 146 = .ok (.iload 12, 2) := by decide +kernel
theorem dX2_whenOfTwo_148 : decode cX2_whenOfTwo 148 = .ok (.istore 7, 2) := by decide +kernel
theorem dX2_whenOfTwo_150 : decode cX2_whenOfTwo 150 = .ok (.iload 13, 2) := by decide +kernel
theorem dX2_whenOfTwo_152 : decode cX2_whenOfTwo 152 = .ok (.istore 8, 2) := by decide +kernel
theorem dX2_whenOfTwo_154 : decode cX2_whenOfTwo 154 = .ok (.iinc 11 (-1), 3) := by decide +kernel
theorem dX2_whenOfTwo_157 : decode cX2_whenOfTwo 157 = .ok (.goto (-132), 3) := by decide +kernel
theorem dX2_whenOfTwo_160 : decode cX2_whenOfTwo 160 = .ok (.iload 5, 2) := by decide +kernel
theorem dX2_whenOfTwo_162 : decode cX2_whenOfTwo 162 = .ok (.ifCond .eq 8, 3) := by decide +kernel
theorem dX2_whenOfTwo_165 : decode cX2_whenOfTwo 165 = .ok (.iload 10, 2) := by decide +kernel
theorem dX2_whenOfTwo_167 : decode cX2_whenOfTwo 167 = .ok (.goto 5, 3) := by decide +kernel
theorem dX2_whenOfTwo_170 : decode cX2_whenOfTwo 170 = .ok (.iload 9, 2) := by decide +kernel
theorem dX2_whenOfTwo_172 : decode cX2_whenOfTwo 172 = .ok (.ireturn, 1) := by decide +kernel
theorem dX2_timesFirst_0 : decode cX2_timesFirst 0 = .ok (.aload_n 0, 1) := by decide +kernel
theorem dX2_timesFirst_1 : decode cX2_timesFirst 1 = .ok (.getfield 12, 3) := by decide +kernel
theorem dX2_timesFirst_4 : decode cX2_timesFirst 4 = .ok (.aload_n 1, 1) := by decide +kernel
theorem dX2_timesFirst_5 : decode cX2_timesFirst 5 = .ok (.invokevirtual 18, 3) := by decide +kernel
theorem dX2_timesFirst_8 : decode cX2_timesFirst 8 = .ok (.iconst 0, 1) := by decide +kernel
theorem dX2_timesFirst_9 : decode cX2_timesFirst 9 = .ok (.istore 4, 2) := by decide +kernel
theorem dX2_timesFirst_11 : decode cX2_timesFirst 11 = .ok (.iload 4, 2) := by decide +kernel
theorem dX2_timesFirst_13 : decode cX2_timesFirst 13 = .ok (.iload_n 3, 1) := by decide +kernel
theorem dX2_timesFirst_14 : decode cX2_timesFirst 14 = .ok (.if_icmp .ge 68, 3) := by decide +kernel
theorem dX2_timesFirst_17 : decode cX2_timesFirst 17 = .ok (.aload_n 0, 1) := by decide +kernel
theorem dX2_timesFirst_18 : decode cX2_timesFirst 18 = .ok (.getfield 12, 3) := by decide +kernel
theorem dX2_timesFirst_21 : decode cX2_timesFirst 21 = .ok (.invokevirtual 22, 3) := by decide +kernel
theorem dX2_timesFirst_24 : decode cX2_timesFirst 24 = .ok (.iconst 0, 1) := by decide +kernel
theorem dX2_timesFirst_25 : decode cX2_timesFirst 25 = .ok (.istore 5, 2) := by decide +kernel
theorem dX2_timesFirst_27 : decode cX2_timesFirst 27 = .ok (.iload 5, 2) := by decide +kernel
theorem dX2_timesFirst_29 : decode cX2_timesFirst 29 = .ok (.bipush 12, 2) := by decide +kernel
theorem dX2_timesFirst_31 : decode cX2_timesFirst 31 = .ok (.if_icmp .ge 45, 3) := by decide +kernel
theorem dX2_timesFirst_34 : decode cX2_timesFirst 34 = .ok (.aload_n 0, 1) := by decide +kernel
theorem dX2_timesFirst_35 : decode cX2_timesFirst 35 = .ok (.getfield 12, 3) := by decide +kernel
theorem dX2_timesFirst_38 : decode cX2_timesFirst 38 = .ok (.getfield 52, 3) := by decide +kernel
theorem dX2_timesFirst_41 : decode cX2_timesFirst 41 = .ok (.iload 5, 2) := by decide +kernel
theorem dX2_timesFirst_43 : decode cX2_timesFirst 43 = .ok (.iaload, 1) := by decide +kernel
theorem dX2_timesFirst_44 : decode cX2_timesFirst 44 = .ok (.iconst (-1), 1) := by decide +kernel
theorem dX2_timesFirst_45 : decode cX2_timesFirst 45 = .ok (.if_icmp .eq 25, 3) := by decide +kernel
theorem dX2_timesFirst_48 : decode cX2_timesFirst 48 = .ok (.aload_n 0, 1) := by decide +kernel
theorem dX2_timesFirst_49 : decode cX2_timesFirst 49 = .ok (.getfield 12, 3) := by decide +kernel
theorem dX2_timesFirst_52 : decode cX2_timesFirst 52 = .ok (.getfield 55, 3) := by decide +kernel
theorem dX2_timesFirst_55 : decode cX2_timesFirst 55 = .ok (.aload_n 0, 1) := by decide +kernel
theorem dX2_timesFirst_56 : decode cX2_timesFirst 56 = .ok (.getfield 12, 3) := by decide +kernel
theorem dX2_timesFirst_59 : decode cX2_timesFirst 59 = .ok (.getfield 52, 3) := by decide +kernel
theorem dX2_timesFirst_62 : decode cX2_timesFirst 62 = .ok (.iload 5, 2) := by decide +kernel
theorem dX2_timesFirst_64 : decode cX2_timesFirst 64 = .ok (.iaload, 1) := by decide +kernel
theorem dX2_timesFirst_65 : decode cX2_timesFirst 65 = .ok (.dup2, 1) := by decide +kernel
theorem dX2_timesFirst_66 : decode cX2_timesFirst 66 = .ok (.iaload, 1) := by decide +kernel
theorem dX2_timesFirst_67 : decode cX2_timesFirst 67 = .ok (.iconst 1, 1) := by decide +kernel
theorem dX2_timesFirst_68 : decode cX2_timesFirst 68 = .ok (.iadd, 1) := by decide +kernel
theorem dX2_timesFirst_69 : decode cX2_timesFirst 69 = .ok (.iastore, 1) := by decide +kernel
theorem dX2_timesFirst_70 : decode cX2_timesFirst 70 = .ok (.iinc 5 1, 3) := by decide +kernel
theorem dX2_timesFirst_73 : decode cX2_timesFirst 73 = .ok (.goto (-46), 3) := by decide +kernel
theorem dX2_timesFirst_76 : decode cX2_timesFirst 76 = .ok (.iinc 4 1, 3) := by decide +kernel
theorem dX2_timesFirst_79 : decode cX2_timesFirst 79 = .ok (.goto (-68), 3) := by decide +kernel
theorem dX2_timesFirst_82 : decode cX2_timesFirst 82 = .ok (.aload_n 0, 1) := by decide +kernel
theorem dX2_timesFirst_83 : decode cX2_timesFirst 83 = .ok (.getfield 12, 3) := by decide +kernel
theorem dX2_timesFirst_86 : decode cX2_timesFirst 86 = .ok (.getfield 55, 3) := by decide +kernel
theorem dX2_timesFirst_89 : decode cX2_timesFirst 89 = .ok (.iload_n 2, 1) := by decide +kernel
theorem dX2_timesFirst_90 : decode cX2_timesFirst 90 = .ok (.iaload, 1) := by decide +kernel
theorem dX2_timesFirst_91 : decode cX2_timesFirst 91 = .ok (.ireturn, 1) := by decide +kernel
theorem dX2_costByFord_0 : decode cX2_costByFord 0 = .ok (.aload_n 1, 1) := by decide +kernel
theorem dX2_costByFord_1 : decode cX2_costByFord 1 = .ok (.iconst 1, 1) := by decide +kernel
theorem dX2_costByFord_2 : decode cX2_costByFord 2 = .ok (.invokevirtual 46, 3) := by decide +kernel
theorem dX2_costByFord_5 : decode cX2_costByFord 5 = .ok (.istore 6, 2) := by decide +kernel
theorem dX2_costByFord_7 : decode cX2_costByFord 7 = .ok (.iconst 1, 1) := by decide +kernel
theorem dX2_costByFord_8 : decode cX2_costByFord 8 = .ok (.istore 7, 2) := by decide +kernel
theorem dX2_costByFord_10 : decode cX2_costByFord 10 = .ok (.iconst 0, 1) := by decide +kernel
theorem dX2_costByFord_11 : decode cX2_costByFord 11 = .ok (.istore 8, 2) := by decide +kernel
theorem dX2_costByFord_13 : decode cX2_costByFord 13 = .ok (.iload 8, 2) := by decide +kernel
theorem dX2_costByFord_15 : decode cX2_costByFord 15 = .ok (.iload 4, 2) := by decide +kernel
theorem dX2_costByFord_17 : decode cX2_costByFord 17 = .ok (.if_icmp .ge 50, 3) := by decide +kernel
theorem dX2_costByFord_20 : decode cX2_costByFord 20 = .ok (.iload 7, 2) := by decide +kernel
theorem dX2_costByFord_22 : decode cX2_costByFord 22 = .ok (.bipush 100, 2) := by decide +kernel
theorem dX2_costByFord_24 : decode cX2_costByFord 24 = .ok (.imul, 1) := by decide +kernel
theorem dX2_costByFord_25 : decode cX2_costByFord 25 = .ok (.istore 7, 2) := by decide +kernel
theorem dX2_costByFord_27 : decode cX2_costByFord 27 = .ok (.aload_n 1, 1) := by decide +kernel
theorem dX2_costByFord_28 : decode cX2_costByFord 28 = .ok (.getfield 49, 3) := by decide +kernel
theorem dX2_costByFord_31 : decode cX2_costByFord 31 = .ok (.iload_n 2, 1) := by decide +kernel
theorem dX2_costByFord_32 : decode cX2_costByFord 32 = .ok (.iaload, 1) := by decide +kernel
theorem dX2_costByFord_33 : decode cX2_costByFord 33 = .ok (.iload 7, 2) := by decide +kernel
theorem dX2_costByFord_35 : decode cX2_costByFord 35 = .ok (.imul, 1) := by decide +kernel
theorem dX2_costByFord_36 : decode cX2_costByFord 36 = .ok (.bipush 100, 2) := by decide +kernel
theorem dX2_costByFord_38 : decode cX2_costByFord 38 = .ok (.iload_n 3, 1) := by decide +kernel
theorem dX2_costByFord_39 : decode cX2_costByFord 39 = .ok (.isub, 1) := by decide +kernel
theorem dX2_costByFord_40 : decode cX2_costByFord 40 = .ok (.iload 6, 2) := by decide +kernel
theorem dX2_costByFord_42 : decode cX2_costByFord 42 = .ok (.imul, 1) := by decide +kernel
theorem dX2_costByFord_43 : decode cX2_costByFord 43 = .ok (.iadd, 1) := by decide +kernel
theorem dX2_costByFord_44 : decode cX2_costByFord 44 = .ok (.istore 9, 2) := by decide +kernel
theorem dX2_costByFord_46 : decode cX2_costByFord 46 = .ok (.iload 9, 2) := by decide +kernel
theorem dX2_costByFord_48 : decode cX2_costByFord 48 = .ok (.aload_n 1, 1) := by decide +kernel
theorem dX2_costByFord_49 : decode cX2_costByFord 49 = .ok (.iconst 1, 1) := by decide +kernel
theorem dX2_costByFord_50 : decode cX2_costByFord 50 = .ok (.invokevirtual 46, 3) := by decide +kernel
theorem dX2_costByFord_53 : decode cX2_costByFord 53 = .ok (.iload 7, 2) := by decide +kernel
theorem dX2_costByFord_55 : decode cX2_costByFord 55 = .ok (.imul, 1) := by decide +kernel
theorem dX2_costByFord_56 : decode cX2_costByFord 56 = .ok (.invokestatic 58, 3) := by decide +kernel
theorem dX2_costByFord_59 : decode cX2_costByFord 59 = .ok (.istore 6, 2) := by decide +kernel
theorem dX2_costByFord_61 : decode cX2_costByFord 61 = .ok (.iinc 8 1, 3) := by decide +kernel
theorem dX2_costByFord_64 : decode cX2_costByFord 64 = .ok (.goto (-51), 3) := by decide +kernel
theorem dX2_costByFord_67 : decode cX2_costByFord 67 = .ok (.iload 6, 2) := by decide +kernel
theorem dX2_costByFord_69 : decode cX2_costByFord 69 = .ok (.iload 7, 2) := by decide +kernel
theorem dX2_costByFord_71 : decode cX2_costByFord 71 = .ok (.invokestatic 64, 3) := by decide +kernel
theorem dX2_costByFord_74 : decode cX2_costByFord 74 = .ok (.istore 8, 2) := by decide +kernel
theorem dX2_costByFord_76 : decode cX2_costByFord 76 = .ok (.iload 5, 2) := by decide +kernel
theorem dX2_costByFord_78 : decode cX2_costByFord 78 = .ok (.ifCond .eq 8, 3) := by decide +kernel
theorem dX2_costByFord_81 : decode cX2_costByFord 81 = .ok (.iload 6, 2) := by decide +kernel
theorem dX2_costByFord_83 : decode cX2_costByFord 83 = .ok (.goto 5, 3) := by decide +kernel
theorem dX2_costByFord_86 : decode cX2_costByFord 86 = .ok (.iload 7, 2) := by decide +kernel
theorem dX2_costByFord_88 : decode cX2_costByFord 88 = .ok (.iload 8, 2) := by decide +kernel
theorem dX2_costByFord_90 : decode cX2_costByFord 90 = .ok (.idiv, 1) := by decide +kernel
theorem dX2_costByFord_91 : decode cX2_costByFord 91 = .ok (.ireturn, 1) := by decide +kernel
theorem dX2_commonPart_0 : decode cX2_commonPart 0 = .ok (.iload_n 0, 1) := by decide +kernel
theorem dX2_commonPart_1 : decode cX2_commonPart 1 = .ok (.istore_n 2, 1) := by decide +kernel
theorem dX2_commonPart_2 : decode cX2_commonPart 2 = .ok (.iload_n 1, 1) := by decide +kernel
theorem dX2_commonPart_3 : decode cX2_commonPart 3 = .ok (.istore_n 3, 1) := by decide +kernel
theorem dX2_commonPart_4 : decode cX2_commonPart 4 = .ok (.iconst 0, 1) := by decide +kernel
theorem dX2_commonPart_5 : decode cX2_commonPart 5 = .ok (.istore 4, 2) := by decide +kernel
theorem dX2_commonPart_7 : decode cX2_commonPart 7 = .ok (.iload 4, 2) := by decide +kernel
theorem dX2_commonPart_9 : decode cX2_commonPart 9 = .ok (.bipush 64, 2) := by decide +kernel
theorem dX2_commonPart_11 : decode cX2_commonPart 11 = .ok (.if_icmp .ge 23, 3) := by decide +kernel
theorem dX2_commonPart_14 : decode cX2_commonPart 14 = .ok (.iload_n 3, 1) := by decide +kernel
theorem dX2_commonPart_15 : decode cX2_commonPart 15 = .ok (.ifCond .eq 19, 3) := by decide +kernel
theorem dX2_commonPart_18 : decode cX2_commonPart 18 = .ok (.iload_n 2, 1) := by decide +kernel
theorem dX2_commonPart_19 : decode cX2_commonPart 19 = .ok (.iload_n 3, 1) := by decide +kernel
theorem dX2_commonPart_20 : decode cX2_commonPart 20 = .ok (.irem, 1) := by decide +kernel
theorem dX2_commonPart_21 : decode cX2_commonPart 21 = .ok (.istore 5, 2) := by decide +kernel
theorem dX2_commonPart_23 : decode cX2_commonPart 23 = .ok (.iload_n 3, 1) := by decide +kernel
theorem dX2_commonPart_24 : decode cX2_commonPart 24 = .ok (.istore_n 2, 1) := by decide +kernel
theorem dX2_commonPart_25 : decode cX2_commonPart 25 = .ok (.iload 5, 2) := by decide +kernel
theorem dX2_commonPart_27 : decode cX2_commonPart 27 = .ok (.istore_n 3, 1) := by decide +kernel
theorem dX2_commonPart_28 : decode cX2_commonPart 28 = .ok (.iinc 4 1, 3) := by decide +kernel
theorem dX2_commonPart_31 : decode cX2_commonPart 31 = .ok (.goto (-24), 3) := by decide +kernel
theorem dX2_commonPart_34 : decode cX2_commonPart 34 = .ok (.iload_n 2, 1) := by decide +kernel
theorem dX2_commonPart_35 : decode cX2_commonPart 35 = .ok (.ifCond .ne 7, 3) := by decide +kernel
theorem dX2_commonPart_38 : decode cX2_commonPart 38 = .ok (.iconst 1, 1) := by decide +kernel
theorem dX2_commonPart_39 : decode cX2_commonPart 39 = .ok (.goto 4, 3) := by decide +kernel
theorem dX2_commonPart_42 : decode cX2_commonPart 42 = .ok (.iload_n 2, 1) := by decide +kernel
theorem dX2_commonPart_43 : decode cX2_commonPart 43 = .ok (.ireturn, 1) := by decide +kernel
theorem dX2_costOfGoat_0 : decode cX2_costOfGoat 0 = .ok (.aload_n 0, 1) := by decide +kernel
theorem dX2_costOfGoat_1 : decode cX2_costOfGoat 1 = .ok (.aload_n 1, 1) := by decide +kernel
theorem dX2_costOfGoat_2 : decode cX2_costOfGoat 2 = .ok (.invokevirtual 67, 3) := by decide +kernel
theorem dX2_costOfGoat_5 : decode cX2_costOfGoat 5 = .ok (.iload_n 2, 1) := by decide +kernel
theorem dX2_costOfGoat_6 : decode cX2_costOfGoat 6 = .ok (.invokevirtual 34, 3) := by decide +kernel
theorem dX2_costOfGoat_9 : decode cX2_costOfGoat 9 = .ok (.istore 4, 2) := by decide +kernel
theorem dX2_costOfGoat_11 : decode cX2_costOfGoat 11 = .ok (.aload_n 0, 1) := by decide +kernel
theorem dX2_costOfGoat_12 : decode cX2_costOfGoat 12 = .ok (.getfield 12, 3) := by decide +kernel
theorem dX2_costOfGoat_15 : decode cX2_costOfGoat 15 = .ok (.getfield 38, 3) := by decide +kernel
theorem dX2_costOfGoat_18 : decode cX2_costOfGoat 18 = .ok (.istore 5, 2) := by decide +kernel
theorem dX2_costOfGoat_20 : decode cX2_costOfGoat 20 = .ok (.iload 5, 2) := by decide +kernel
theorem dX2_costOfGoat_22 : decode cX2_costOfGoat 22 = .ok (.bipush 7, 2) := by decide +kernel
theorem dX2_costOfGoat_24 : decode cX2_costOfGoat 24 = .ok (.if_icmp .lt 6, 3) := by decide +kernel
theorem dX2_costOfGoat_27 : decode cX2_costOfGoat 27 = .ok (.ldc 42, 2) := by decide +kernel
theorem dX2_costOfGoat_29 : decode cX2_costOfGoat 29 = .ok (.ireturn, 1) := by decide +kernel
theorem dX2_costOfGoat_30 : decode cX2_costOfGoat 30 = .ok (.aload_n 0, 1) := by decide +kernel
theorem dX2_costOfGoat_31 : decode cX2_costOfGoat 31 = .ok (.getfield 12, 3) := by decide +kernel
theorem dX2_costOfGoat_34 : decode cX2_costOfGoat 34 = .ok (.getfield 71, 3) := by decide +kernel
theorem dX2_costOfGoat_37 : decode cX2_costOfGoat 37 = .ok (.iload 5, 2) := by decide +kernel
theorem dX2_costOfGoat_39 : decode cX2_costOfGoat 39 = .ok (.iconst 5, 1) := by decide +kernel
theorem dX2_costOfGoat_40 : decode cX2_costOfGoat 40 = .ok (.iastore, 1) := by decide +kernel
theorem dX2_costOfGoat_41 : decode cX2_costOfGoat 41 = .ok (.aload_n 0, 1) := by decide +kernel
theorem dX2_costOfGoat_42 : decode cX2_costOfGoat 42 = .ok (.getfield 12, 3) := by decide +kernel
theorem dX2_costOfGoat_45 : decode cX2_costOfGoat 45 = .ok (.getfield 74, 3) := by decide +kernel
theorem dX2_costOfGoat_48 : decode cX2_costOfGoat 48 = .ok (.iload 5, 2) := by decide +kernel
theorem dX2_costOfGoat_50 : decode cX2_costOfGoat 50 = .ok (.iload_n 3, 1) := by decide +kernel
theorem dX2_costOfGoat_51 : decode cX2_costOfGoat 51 = .ok (.iastore, 1) := by decide +kernel
theorem dX2_costOfGoat_52 : decode cX2_costOfGoat 52 = .ok (.aload_n 0, 1) := by decide +kernel
theorem dX2_costOfGoat_53 : decode cX2_costOfGoat 53 = .ok (.getfield 12, 3) := by decide +kernel
theorem dX2_costOfGoat_56 : decode cX2_costOfGoat 56 = .ok (.getfield 49, 3) := by decide +kernel
theorem dX2_costOfGoat_59 : decode cX2_costOfGoat 59 = .ok (.iload 5, 2) := by decide +kernel
theorem dX2_costOfGoat_61 : decode cX2_costOfGoat 61 = .ok (.iconst 0, 1) := by decide +kernel
theorem dX2_costOfGoat_62 : decode cX2_costOfGoat 62 = .ok (.iastore, 1) := by decide +kernel
theorem dX2_costOfGoat_63 : decode cX2_costOfGoat 63 = .ok (.aload_n 0, 1) := by decide +kernel
theorem dX2_costOfGoat_64 : decode cX2_costOfGoat 64 = .ok (.getfield 12, 3) := by decide +kernel
theorem dX2_costOfGoat_67 : decode cX2_costOfGoat 67 = .ok (.getfield 29, 3) := by decide +kernel
theorem dX2_costOfGoat_70 : decode cX2_costOfGoat 70 = .ok (.iload 5, 2) := by decide +kernel
theorem dX2_costOfGoat_72 : decode cX2_costOfGoat 72 = .ok (.iconst 0, 1) := by decide +kernel
theorem dX2_costOfGoat_73 : decode cX2_costOfGoat 73 = .ok (.iastore, 1) := by decide +kernel
theorem dX2_costOfGoat_74 : decode cX2_costOfGoat 74 = .ok (.aload_n 0, 1) := by decide +kernel
theorem dX2_costOfGoat_75 : decode cX2_costOfGoat 75 = .ok (.getfield 12, 3) := by decide +kernel
theorem dX2_costOfGoat_78 : decode cX2_costOfGoat 78 = .ok (.dup, 1) := by decide +kernel
theorem dX2_costOfGoat_79 : decode cX2_costOfGoat 79 = .ok (.getfield 38, 3) := by decide +kernel
theorem dX2_costOfGoat_82 : decode cX2_costOfGoat 82 = .ok (.iconst 1, 1) := by decide +kernel
theorem dX2_costOfGoat_83 : decode cX2_costOfGoat 83 = .ok (.iadd, 1) := by decide +kernel
theorem dX2_costOfGoat_84 : decode cX2_costOfGoat 84 = .ok (.putfield 38, 3) := by decide +kernel
theorem dX2_costOfGoat_87 : decode cX2_costOfGoat 87 = .ok (.aload_n 0, 1) := by decide +kernel
theorem dX2_costOfGoat_88 : decode cX2_costOfGoat 88 = .ok (.getfield 12, 3) := by decide +kernel
theorem dX2_costOfGoat_91 : decode cX2_costOfGoat 91 = .ok (.invokevirtual 22, 3) := by decide +kernel
theorem dX2_costOfGoat_94 : decode cX2_costOfGoat 94 = .ok (.aload_n 0, 1) := by decide +kernel
theorem dX2_costOfGoat_95 : decode cX2_costOfGoat 95 = .ok (.getfield 12, 3) := by decide +kernel
theorem dX2_costOfGoat_98 : decode cX2_costOfGoat 98 = .ok (.iload_n 2, 1) := by decide +kernel
theorem dX2_costOfGoat_99 : decode cX2_costOfGoat 99 = .ok (.invokevirtual 34, 3) := by decide +kernel
theorem dX2_costOfGoat_102 : decode cX2_costOfGoat 102 = .ok (.aload_n 0, 1) := by decide +kernel
theorem dX2_costOfGoat_103 : decode cX2_costOfGoat 103 = .ok (.getfield 12, 3) := by decide +kernel
theorem dX2_costOfGoat_106 : decode cX2_costOfGoat 106 = .ok (.getfield 77, 3) := by decide +kernel
theorem dX2_costOfGoat_109 : decode cX2_costOfGoat 109 = .ok (.iload 5, 2) := by decide +kernel
theorem dX2_costOfGoat_111 : decode cX2_costOfGoat 111 = .ok (.iaload, 1) := by decide +kernel
theorem dX2_costOfGoat_112 : decode cX2_costOfGoat 112 = .ok (.iadd, 1) := by decide +kernel
theorem dX2_costOfGoat_113 : decode cX2_costOfGoat 113 = .ok (.iload 4, 2) := by decide +kernel
theorem dX2_costOfGoat_115 : decode cX2_costOfGoat 115 = .ok (.isub, 1) := by decide +kernel
theorem dX2_costOfGoat_116 : decode cX2_costOfGoat 116 = .ok (.ireturn, 1) := by decide +kernel
theorem dX3_init_0 : decode cX3_init 0 = .ok (.aload_n 0, 1) := by decide +kernel
theorem dX3_init_1 : decode cX3_init 1 = .ok (.invokespecial 3, 3) := by decide +kernel
theorem dX3_init_4 : decode cX3_init 4 = .ok (.aload_n 0, 1) := by decide +kernel
theorem dX3_init_5 : decode cX3_init 5 = .ok (.bipush 6, 2) := by decide +kernel
theorem dX3_init_7 : decode cX3_init 7 = .ok (.newarray .int, 2) := by decide +kernel
theorem dX3_init_9 : decode cX3_init 9 = .ok (.putfield 9, 3) := by decide +kernel
theorem dX3_init_12 : decode cX3_init 12 = .ok (.aload_n 0, 1) := by decide +kernel
theorem dX3_init_13 : decode cX3_init 13 = .ok (.bipush 7, 2) := by decide +kernel
theorem dX3_init_15 : decode cX3_init 15 = .ok (.newarray .int, 2) := by decide +kernel
theorem dX3_init_17 : decode cX3_init 17 = .ok (.putfield 15, 3) := by decide +kernel
theorem dX3_init_20 : decode cX3_init 20 = .ok (.aload_n 0, 1) := by decide +kernel
theorem dX3_init_21 : decode cX3_init 21 = .ok (.bipush 7, 2) := by decide +kernel
theorem dX3_init_23 : decode cX3_init 23 = .ok (.newarray .int, 2) := by decide +kernel
theorem dX3_init_25 : decode cX3_init 25 = .ok (.putfield 18, 3) := by decide +kernel
theorem dX3_init_28 : decode cX3_init 28 = .ok (.aload_n 0, 1) := by decide +kernel
theorem dX3_init_29 : decode cX3_init 29 = .ok (.bipush 7, 2) := by decide +kernel
theorem dX3_init_31 : decode cX3_init 31 = .ok (.newarray .int, 2) := by decide +kernel
theorem dX3_init_33 : decode cX3_init 33 = .ok (.putfield 21, 3) := by decide +kernel
theorem dX3_init_36 : decode cX3_init 36 = .ok (.aload_n 0, 1) := by decide +kernel
theorem dX3_init_37 : decode cX3_init 37 = .ok (.bipush 7, 2) := by decide +kernel
theorem dX3_init_39 : decode cX3_init 39 = .ok (.newarray .int, 2) := by decide +kernel
theorem dX3_init_41 : decode cX3_init 41 = .ok (.putfield 24, 3) := by decide +kernel
theorem dX3_init_44 : decode cX3_init 44 = .ok (.aload_n 0, 1) := by decide +kernel
theorem dX3_init_45 : decode cX3_init 45 = .ok (.bipush 7, 2) := by decide +kernel
theorem dX3_init_47 : decode cX3_init 47 = .ok (.newarray .int, 2) := by decide +kernel
theorem dX3_init_49 : decode cX3_init 49 = .ok (.putfield 27, 3) := by decide +kernel
theorem dX3_init_52 : decode cX3_init 52 = .ok (.aload_n 0, 1) := by decide +kernel
theorem dX3_init_53 : decode cX3_init 53 = .ok (.bipush 7, 2) := by decide +kernel
theorem dX3_init_55 : decode cX3_init 55 = .ok (.newarray .int, 2) := by decide +kernel
theorem dX3_init_57 : decode cX3_init 57 = .ok (.putfield 30, 3) := by decide +kernel
theorem dX3_init_60 : decode cX3_init 60 = .ok (.aload_n 0, 1) := by decide +kernel
theorem dX3_init_61 : decode cX3_init 61 = .ok (.bipush 7, 2) := by decide +kernel
theorem dX3_init_63 : decode cX3_init 63 = .ok (.newarray .int, 2) := by decide +kernel
theorem dX3_init_65 : decode cX3_init 65 = .ok (.putfield 33, 3) := by decide +kernel
theorem dX3_init_68 : decode cX3_init 68 = .ok (.aload_n 0, 1) := by decide +kernel
theorem dX3_init_69 : decode cX3_init 69 = .ok (.bipush 12, 2) := by decide +kernel
theorem dX3_init_71 : decode cX3_init 71 = .ok (.newarray .int, 2) := by decide +kernel
theorem dX3_init_73 : decode cX3_init 73 = .ok (.putfield 36, 3) := by decide +kernel
theorem dX3_init_76 : decode cX3_init 76 = .ok (.return_, 1) := by decide +kernel
theorem dX3_become_0 : decode cX3_become 0 = .ok (.aload_n 1, 1) := by decide +kernel
theorem dX3_become_1 : decode cX3_become 1 = .ok (.getfield 9, 3) := by decide +kernel
theorem dX3_become_4 : decode cX3_become 4 = .ok (.aload_n 0, 1) := by decide +kernel
theorem dX3_become_5 : decode cX3_become 5 = .ok (.getfield 9, 3) := by decide +kernel
theorem dX3_become_8 : decode cX3_become 8 = .ok (.invokestatic 39, 3) := by decide +kernel
theorem dX3_become_11 : decode cX3_become 11 = .ok (.aload_n 1, 1) := by decide +kernel
theorem dX3_become_12 : decode cX3_become 12 = .ok (.getfield 15, 3) := by decide +kernel
theorem dX3_become_15 : decode cX3_become 15 = .ok (.aload_n 0, 1) := by decide +kernel
theorem dX3_become_16 : decode cX3_become 16 = .ok (.getfield 15, 3) := by decide +kernel
theorem dX3_become_19 : decode cX3_become 19 = .ok (.invokestatic 39, 3) := by decide +kernel
theorem dX3_become_22 : decode cX3_become 22 = .ok (.aload_n 1, 1) := by decide +kernel
theorem dX3_become_23 : decode cX3_become 23 = .ok (.getfield 18, 3) := by decide +kernel
theorem dX3_become_26 : decode cX3_become 26 = .ok (.aload_n 0, 1) := by decide +kernel
theorem dX3_become_27 : decode cX3_become 27 = .ok (.getfield 18, 3) := by decide +kernel
theorem dX3_become_30 : decode cX3_become 30 = .ok (.invokestatic 39, 3) := by decide +kernel
theorem dX3_become_33 : decode cX3_become 33 = .ok (.aload_n 1, 1) := by decide +kernel
theorem dX3_become_34 : decode cX3_become 34 = .ok (.getfield 21, 3) := by decide +kernel
theorem dX3_become_37 : decode cX3_become 37 = .ok (.aload_n 0, 1) := by decide +kernel
theorem dX3_become_38 : decode cX3_become 38 = .ok (.getfield 21, 3) := by decide +kernel
theorem dX3_become_41 : decode cX3_become 41 = .ok (.invokestatic 39, 3) := by decide +kernel
theorem dX3_become_44 : decode cX3_become 44 = .ok (.aload_n 1, 1) := by decide +kernel
theorem dX3_become_45 : decode cX3_become 45 = .ok (.getfield 24, 3) := by decide +kernel
theorem dX3_become_48 : decode cX3_become 48 = .ok (.aload_n 0, 1) := by decide +kernel
theorem dX3_become_49 : decode cX3_become 49 = .ok (.getfield 24, 3) := by decide +kernel
theorem dX3_become_52 : decode cX3_become 52 = .ok (.invokestatic 39, 3) := by decide +kernel
theorem dX3_become_55 : decode cX3_become 55 = .ok (.aload_n 1, 1) := by decide +kernel
theorem dX3_become_56 : decode cX3_become 56 = .ok (.getfield 27, 3) := by decide +kernel
theorem dX3_become_59 : decode cX3_become 59 = .ok (.aload_n 0, 1) := by decide +kernel
theorem dX3_become_60 : decode cX3_become 60 = .ok (.getfield 27, 3) := by decide +kernel
theorem dX3_become_63 : decode cX3_become 63 = .ok (.invokestatic 39, 3) := by decide +kernel
theorem dX3_become_66 : decode cX3_become 66 = .ok (.aload_n 1, 1) := by decide +kernel
theorem dX3_become_67 : decode cX3_become 67 = .ok (.getfield 30, 3) := by decide +kernel
theorem dX3_become_70 : decode cX3_become 70 = .ok (.aload_n 0, 1) := by decide +kernel
theorem dX3_become_71 : decode cX3_become 71 = .ok (.getfield 30, 3) := by decide +kernel
theorem dX3_become_74 : decode cX3_become 74 = .ok (.invokestatic 39, 3) := by decide +kernel
theorem dX3_become_77 : decode cX3_become 77 = .ok (.aload_n 1, 1) := by decide +kernel
theorem dX3_become_78 : decode cX3_become 78 = .ok (.getfield 33, 3) := by decide +kernel
theorem dX3_become_81 : decode cX3_become 81 = .ok (.aload_n 0, 1) := by decide +kernel
theorem dX3_become_82 : decode cX3_become 82 = .ok (.getfield 33, 3) := by decide +kernel
theorem dX3_become_85 : decode cX3_become 85 = .ok (.invokestatic 39, 3) := by decide +kernel
theorem dX3_become_88 : decode cX3_become 88 = .ok (.aload_n 1, 1) := by decide +kernel
theorem dX3_become_89 : decode cX3_become 89 = .ok (.getfield 36, 3) := by decide +kernel
theorem dX3_become_92 : decode cX3_become 92 = .ok (.aload_n 0, 1) := by decide +kernel
theorem dX3_become_93 : decode cX3_become 93 = .ok (.getfield 36, 3) := by decide +kernel
theorem dX3_become_96 : decode cX3_become 96 = .ok (.invokestatic 39, 3) := by decide +kernel
theorem dX3_become_99 : decode cX3_become 99 = .ok (.aload_n 0, 1) := by decide +kernel
theorem dX3_become_100 : decode cX3_become 100 = .ok (.aload_n 1, 1) := by decide +kernel
theorem dX3_become_101 : decode cX3_become 101 = .ok (.getfield 43, 3) := by decide +kernel
theorem dX3_become_104 : decode cX3_become 104 = .ok (.putfield 43, 3) := by decide +kernel
theorem dX3_become_107 : decode cX3_become 107 = .ok (.aload_n 0, 1) := by decide +kernel
theorem dX3_become_108 : decode cX3_become 108 = .ok (.aload_n 1, 1) := by decide +kernel
theorem dX3_become_109 : decode cX3_become 109 = .ok (.getfield 47, 3) := by decide +kernel
theorem dX3_become_112 : decode cX3_become 112 = .ok (.putfield 47, 3) := by decide +kernel
theorem dX3_become_115 : decode cX3_become 115 = .ok (.aload_n 0, 1) := by decide +kernel
theorem dX3_become_116 : decode cX3_become 116 = .ok (.aload_n 1, 1) := by decide +kernel
theorem dX3_become_117 : decode cX3_become 117 = .ok (.getfield 51, 3) := by decide +kernel
theorem dX3_become_120 : decode cX3_become 120 = .ok (.putfield 51, 3) := by decide +kernel
theorem dX3_become_123 : decode cX3_become 123 = .ok (.return_, 1) := by decide +kernel
theorem dX3_copyAll_0 : decode cX3_copyAll 0 = .ok (.aload_n 0, 1) := by decide +kernel
theorem dX3_copyAll_1 : decode cX3_copyAll 1 = .ok (.iconst 0, 1) := by decide +kernel
theorem dX3_copyAll_2 : decode cX3_copyAll 2 = .ok (.aload_n 1, 1) := by decide +kernel
theorem dX3_copyAll_3 : decode cX3_copyAll 3 = .ok (.iconst 0, 1) := by decide +kernel
theorem dX3_copyAll_4 : decode cX3_copyAll 4 = .ok (.aload_n 0, 1) := by decide +kernel
theorem dX3_copyAll_5 : decode cX3_copyAll 5 = .ok (.arraylength, 1) := by decide +kernel
theorem dX3_copyAll_6 : decode cX3_copyAll 6 = .ok (.aload_n 1, 1) := by decide +kernel
theorem dX3_copyAll_7 : decode cX3_copyAll 7 = .ok (.arraylength, 1) := by decide +kernel
theorem dX3_copyAll_8 : decode cX3_copyAll 8 = .ok (.invokestatic 54, 3) := by decide +kernel
theorem dX3_copyAll_11 : decode cX3_copyAll 11 = .ok (.invokestatic 60, 3) := by decide +kernel
theorem dX3_copyAll_14 : decode cX3_copyAll 14 = .ok (.return_, 1) := by decide +kernel
theorem dX3_beginAnew_0 : decode cX3_beginAnew 0 = .ok (.aload_n 0, 1) := by decide +kernel
theorem dX3_beginAnew_1 : decode cX3_beginAnew 1 = .ok (.getfield 27, 3) := by decide +kernel
theorem dX3_beginAnew_4 : decode cX3_beginAnew 4 = .ok (.ldc 66, 2) := by decide +kernel
theorem dX3_beginAnew_6 : decode cX3_beginAnew 6 = .ok (.invokestatic 67, 3) := by decide +kernel
theorem dX3_beginAnew_9 : decode cX3_beginAnew 9 = .ok (.aload_n 0, 1) := by decide +kernel
theorem dX3_beginAnew_10 : decode cX3_beginAnew 10 = .ok (.getfield 30, 3) := by decide +kernel
theorem dX3_beginAnew_13 : decode cX3_beginAnew 13 = .ok (.iconst 0, 1) := by decide +kernel
theorem dX3_beginAnew_14 : decode cX3_beginAnew 14 = .ok (.invokestatic 67, 3) := by decide +kernel
theorem dX3_beginAnew_17 : decode cX3_beginAnew 17 = .ok (.aload_n 0, 1) := by decide +kernel
theorem dX3_beginAnew_18 : decode cX3_beginAnew 18 = .ok (.getfield 36, 3) := by decide +kernel
theorem dX3_beginAnew_21 : decode cX3_beginAnew 21 = .ok (.iconst (-1), 1) := by decide +kernel
theorem dX3_beginAnew_22 : decode cX3_beginAnew 22 = .ok (.invokestatic 67, 3) := by decide +kernel
theorem dX3_beginAnew_25 : decode cX3_beginAnew 25 = .ok (.aload_n 0, 1) := by decide +kernel
theorem dX3_beginAnew_26 : decode cX3_beginAnew 26 = .ok (.iconst 0, 1) := by decide +kernel
theorem dX3_beginAnew_27 : decode cX3_beginAnew 27 = .ok (.putfield 51, 3) := by decide +kernel
theorem dX3_beginAnew_30 : decode cX3_beginAnew 30 = .ok (.return_, 1) := by decide +kernel
theorem dX3_runDay_0 : decode cX3_runDay 0 = .ok (.aload_n 0, 1) := by decide +kernel
theorem dX3_runDay_1 : decode cX3_runDay 1 = .ok (.invokevirtual 73, 3) := by decide +kernel
theorem dX3_runDay_4 : decode cX3_runDay 4 = .ok (.iconst 1, 1) := by decide +kernel
theorem dX3_runDay_5 : decode cX3_runDay 5 = .ok (.aload_n 0, 1) := by decide +kernel
theorem dX3_runDay_6 : decode cX3_runDay 6 = .ok (.getfield 47, 3) := by decide +kernel
theorem dX3_runDay_9 : decode cX3_runDay 9 = .ok (.ishl, 1) := by decide +kernel
theorem dX3_runDay_10 : decode cX3_runDay 10 = .ok (.iconst 1, 1) := by decide +kernel
theorem dX3_runDay_11 : decode cX3_runDay 11 = .ok (.isub, 1) := by decide +kernel
theorem dX3_runDay_12 : decode cX3_runDay 12 = .ok (.istore_n 1, 1) := by decide +kernel
theorem dX3_runDay_13 : decode cX3_runDay 13 = .ok (.iconst 0, 1) := by decide +kernel
theorem dX3_runDay_14 : decode cX3_runDay 14 = .ok (.istore_n 2, 1) := by decide +kernel
theorem dX3_runDay_15 : decode cX3_runDay 15 = .ok (.iconst 0, 1) := by decide +kernel
theorem dX3_runDay_16 : decode cX3_runDay 16 = .ok (.istore_n 3, 1) := by decide +kernel
theorem dX3_runDay_17 : decode cX3_runDay 17 = .ok (.iload_n 3, 1) := by decide +kernel
theorem dX3_runDay_18 : decode cX3_runDay 18 = .ok (.bipush 12, 2) := by decide +kernel
theorem dX3_runDay_20 : decode cX3_runDay 20 = .ok (.if_icmp .ge 21, 3) := by decide +kernel
theorem dX3_runDay_23 : decode cX3_runDay 23 = .ok (.iload_n 2, 1) := by decide +kernel
theorem dX3_runDay_24 : decode cX3_runDay 24 = .ok (.iload_n 1, 1) := by decide +kernel
theorem dX3_runDay_25 : decode cX3_runDay 25 = .ok (.if_icmp .eq 16, 3) := by decide +kernel
theorem dX3_runDay_28 : decode cX3_runDay 28 = .ok (.iload_n 2, 1) := by decide +kernel
theorem dX3_runDay_29 : decode cX3_runDay 29 = .ok (.aload_n 0, 1) := by decide +kernel
theorem dX3_runDay_30 : decode cX3_runDay 30 = .ok (.invokevirtual 76, 3) := by decide +kernel
theorem dX3_runDay_33 : decode cX3_runDay 33 = .ok (.ior, 1) := by decide +kernel
theorem dX3_runDay_34 : decode cX3_runDay 34 = .ok (.istore_n 2, 1) := by decide +kernel
theorem dX3_runDay_35 : decode cX3_runDay 35 = .ok (.iinc 3 1, 3) := by decide +kernel
theorem dX3_runDay_38 : decode cX3_runDay 38 = .ok (.goto (-21), 3) := by decide +kernel
theorem dX3_runDay_41 : decode cX3_runDay 41 = .ok (.return_, 1) := by decide +kernel
theorem dX3_goBy_0 : decode cX3_goBy 0 = .ok (.aload_n 0, 1) := by decide +kernel
theorem dX3_goBy_1 : decode cX3_goBy 1 = .ok (.getfield 51, 3) := by decide +kernel
theorem dX3_goBy_4 : decode cX3_goBy 4 = .ok (.invokestatic 80, 3) := by decide +kernel
theorem dX3_goBy_7 : decode cX3_goBy 7 = .ok (.ifCond .ne 5, 3) := by decide +kernel
theorem dX3_goBy_10 : decode cX3_goBy 10 = .ok (.iconst 0, 1) := by decide +kernel
theorem dX3_goBy_11 : decode cX3_goBy 11 = .ok (.ireturn, 1) := by decide +kernel
theorem dX3_goBy_12 : decode cX3_goBy 12 = .ok (.aload_n 0, 1) := by decide +kernel
theorem dX3_goBy_13 : decode cX3_goBy 13 = .ok (.invokevirtual 84, 3) := by decide +kernel
theorem dX3_goBy_16 : decode cX3_goBy 16 = .ok (.istore_n 1, 1) := by decide +kernel
theorem dX3_goBy_17 : decode cX3_goBy 17 = .ok (.aload_n 0, 1) := by decide +kernel
theorem dX3_goBy_18 : decode cX3_goBy 18 = .ok (.iload_n 1, 1) := by decide +kernel
theorem dX3_goBy_19 : decode cX3_goBy 19 = .ok (.invokevirtual 87, 3) := by decide +kernel
theorem dX3_goBy_22 : decode cX3_goBy 22 = .ok (.istore_n 2, 1) := by decide +kernel
theorem dX3_goBy_23 : decode cX3_goBy 23 = .ok (.iconst 0, 1) := by decide +kernel
theorem dX3_goBy_24 : decode cX3_goBy 24 = .ok (.istore_n 3, 1) := by decide +kernel
theorem dX3_goBy_25 : decode cX3_goBy 25 = .ok (.iload_n 2, 1) := by decide +kernel
theorem dX3_goBy_26 : decode cX3_goBy 26 = .ok (.ifCond .eq 49, 3) := by decide +kernel
theorem dX3_goBy_29 : decode cX3_goBy 29 = .ok (.iload_n 2, 1) := by decide +kernel
theorem dX3_goBy_30 : decode cX3_goBy 30 = .ok (.aload_n 0, 1) := by decide +kernel
theorem dX3_goBy_31 : decode cX3_goBy 31 = .ok (.iload_n 1, 1) := by decide +kernel
theorem dX3_goBy_32 : decode cX3_goBy 32 = .ok (.invokevirtual 91, 3) := by decide +kernel
theorem dX3_goBy_35 : decode cX3_goBy 35 = .ok (.ior, 1) := by decide +kernel
theorem dX3_goBy_36 : decode cX3_goBy 36 = .ok (.istore_n 3, 1) := by decide +kernel
theorem dX3_goBy_37 : decode cX3_goBy 37 = .ok (.aload_n 0, 1) := by decide +kernel
theorem dX3_goBy_38 : decode cX3_goBy 38 = .ok (.iload_n 2, 1) := by decide +kernel
theorem dX3_goBy_39 : decode cX3_goBy 39 = .ok (.invokevirtual 94, 3) := by decide +kernel
theorem dX3_goBy_42 : decode cX3_goBy 42 = .ok (.istore 4, 2) := by decide +kernel
theorem dX3_goBy_44 : decode cX3_goBy 44 = .ok (.aload_n 0, 1) := by decide +kernel
theorem dX3_goBy_45 : decode cX3_goBy 45 = .ok (.getfield 36, 3) := by decide +kernel
theorem dX3_goBy_48 : decode cX3_goBy 48 = .ok (.aload_n 0, 1) := by decide +kernel
theorem dX3_goBy_49 : decode cX3_goBy 49 = .ok (.getfield 51, 3) := by decide +kernel
theorem dX3_goBy_52 : decode cX3_goBy 52 = .ok (.iload 4, 2) := by decide +kernel
theorem dX3_goBy_54 : decode cX3_goBy 54 = .ok (.iastore, 1) := by decide +kernel
theorem dX3_goBy_55 : decode cX3_goBy 55 = .ok (.aload_n 0, 1) := by decide +kernel
theorem dX3_goBy_56 : decode cX3_goBy 56 = .ok (.getfield 30, 3) := by decide +kernel
theorem dX3_goBy_59 : decode cX3_goBy 59 = .ok (.iload 4, 2) := by decide +kernel
theorem dX3_goBy_61 : decode cX3_goBy 61 = .ok (.aload_n 0, 1) := by decide +kernel
theorem dX3_goBy_62 : decode cX3_goBy 62 = .ok (.iload_n 3, 1) := by decide +kernel
theorem dX3_goBy_63 : decode cX3_goBy 63 = .ok (.invokestatic 97, 3) := by decide +kernel
theorem dX3_goBy_66 : decode cX3_goBy 66 = .ok (.invokevirtual 102, 3) := by decide +kernel
theorem dX3_goBy_69 : decode cX3_goBy 69 = .ok (.iastore, 1) := by decide +kernel
theorem dX3_goBy_70 : decode cX3_goBy 70 = .ok (.aload_n 0, 1) := by decide +kernel
theorem dX3_goBy_71 : decode cX3_goBy 71 = .ok (.iload_n 3, 1) := by decide +kernel
theorem dX3_goBy_72 : decode cX3_goBy 72 = .ok (.invokevirtual 105, 3) := by decide +kernel
theorem dX3_goBy_75 : decode cX3_goBy 75 = .ok (.aload_n 0, 1) := by decide +kernel
theorem dX3_goBy_76 : decode cX3_goBy 76 = .ok (.dup, 1) := by decide +kernel
theorem dX3_goBy_77 : decode cX3_goBy 77 = .ok (.getfield 51, 3) := by decide +kernel
theorem dX3_goBy_80 : decode cX3_goBy 80 = .ok (.iconst 1, 1) := by decide +kernel
theorem dX3_goBy_81 : decode cX3_goBy 81 = .ok (.iadd, 1) := by decide +kernel
theorem dX3_goBy_82 : decode cX3_goBy 82 = .ok (.putfield 51, 3) := by decide +kernel
theorem dX3_goBy_85 : decode cX3_goBy 85 = .ok (.iload_n 3, 1) := by decide +kernel
theorem dX3_goBy_86 : decode cX3_goBy 86 = .ok (.ireturn, 1) := by decide +kernel
theorem dX3_goBack_0 : decode cX3_goBack 0 = .ok (.aload_n 0, 1) := by decide +kernel
theorem dX3_goBack_1 : decode cX3_goBack 1 = .ok (.getfield 51, 3) := by decide +kernel
theorem dX3_goBack_4 : decode cX3_goBack 4 = .ok (.ifCond .ne 4, 3) := by decide +kernel
theorem dX3_goBack_7 : decode cX3_goBack 7 = .ok (.return_, 1) := by decide +kernel
theorem dX3_goBack_8 : decode cX3_goBack 8 = .ok (.aload_n 0, 1) := by decide +kernel
theorem dX3_goBack_9 : decode cX3_goBack 9 = .ok (.dup, 1) := by decide +kernel
theorem dX3_goBack_10 : decode cX3_goBack 10 = .ok (.getfield 51, 3) := by decide +kernel
theorem dX3_goBack_13 : decode cX3_goBack 13 = .ok (.iconst 1, 1) := by decide +kernel
theorem dX3_goBack_14 : decode cX3_goBack 14 = .ok (.isub, 1) := by decide +kernel
theorem dX3_goBack_15 : decode cX3_goBack 15 = .ok (.putfield 51, 3) := by decide +kernel
theorem dX3_goBack_18 : decode cX3_goBack 18 = .ok (.aload_n 0, 1) := by decide +kernel
theorem dX3_goBack_19 : decode cX3_goBack 19 = .ok (.getfield 36, 3) := by decide +kernel
theorem dX3_goBack_22 : decode cX3_goBack 22 = .ok (.aload_n 0, 1) := by decide +kernel
theorem dX3_goBack_23 : decode cX3_goBack 23 = .ok (.getfield 51, 3) := by decide +kernel
theorem dX3_goBack_26 : decode cX3_goBack 26 = .ok (.iconst (-1), 1) := by decide +kernel
theorem dX3_goBack_27 : decode cX3_goBack 27 = .ok (.iastore, 1) := by decide +kernel
theorem dX3_goBack_28 : decode cX3_goBack 28 = .ok (.iconst 0, 1) := by decide +kernel
theorem dX3_goBack_29 : decode cX3_goBack 29 = .ok (.istore_n 1, 1) := by decide +kernel
theorem dX3_goBack_30 : decode cX3_goBack 30 = .ok (.iload_n 1, 1) := by decide +kernel
theorem dX3_goBack_31 : decode cX3_goBack 31 = .ok (.aload_n 0, 1) := by decide +kernel
theorem dX3_goBack_32 : decode cX3_goBack 32 = .ok (.getfield 47, 3) := by decide +kernel
theorem dX3_goBack_35 : decode cX3_goBack 35 = .ok (.if_icmp .ge 37, 3) := by decide +kernel
theorem dX3_goBack_38 : decode cX3_goBack 38 = .ok (.aload_n 0, 1) := by decide +kernel
theorem dX3_goBack_39 : decode cX3_goBack 39 = .ok (.getfield 27, 3) := by decide +kernel
theorem dX3_goBack_42 : decode cX3_goBack 42 = .ok (.iload_n 1, 1) := by decide +kernel
theorem dX3_goBack_43 : decode cX3_goBack 43 = .ok (.iaload, 1) := by decide +kernel
theorem dX3_goBack_44 : decode cX3_goBack 44 = .ok (.aload_n 0, 1) := by decide +kernel
theorem dX3_goBack_45 : decode cX3_goBack 45 = .ok (.getfield 51, 3) := by decide +kernel
theorem dX3_goBack_48 : decode cX3_goBack 48 = .ok (.if_icmp .ne 18, 3) := by decide +kernel
theorem dX3_goBack_51 : decode cX3_goBack 51 = .ok (.aload_n 0, 1) := by decide +kernel
theorem dX3_goBack_52 : decode cX3_goBack 52 = .ok (.getfield 27, 3) := by decide +kernel
theorem dX3_goBack_55 : decode cX3_goBack 55 = .ok (.iload_n 1, 1) := by decide +kernel
theorem dX3_goBack_56 : decode cX3_goBack 56 = .ok (.ldc 66, 2) := by decide +kernel
theorem dX3_goBack_58 : decode cX3_goBack 58 = .ok (.iastore, 1) := by decide +kernel
theorem dX3_goBack_59 : decode cX3_goBack 59 = .ok (.aload_n 0, 1) := by decide +kernel
theorem dX3_goBack_60 : decode cX3_goBack 60 = .ok (.getfield 30, 3) := by decide +kernel
theorem dX3_goBack_63 : decode cX3_goBack 63 = .ok (.iload_n 1, 1) := by decide +kernel
theorem dX3_goBack_64 : decode cX3_goBack 64 = .ok (.iconst 0, 1) := by decide +kernel
theorem dX3_goBack_65 : decode cX3_goBack 65 = .ok (.iastore, 1) := by decide +kernel
theorem dX3_goBack_66 : decode cX3_goBack 66 = .ok (.iinc 1 1, 3) := by decide +kernel
theorem dX3_goBack_69 : decode cX3_goBack 69 = .ok (.goto (-39), 3) := by decide +kernel
theorem dX3_goBack_72 : decode cX3_goBack 72 = .ok (.return_, 1) := by decide +kernel
theorem dX3_standing_0 : decode cX3_standing 0 = .ok (.iconst 0, 1) := by decide +kernel
theorem dX3_standing_1 : decode cX3_standing 1 = .ok (.istore_n 1, 1) := by decide +kernel
theorem dX3_standing_2 : decode cX3_standing 2 = .ok (.iconst 0, 1) := by decide +kernel
theorem dX3_standing_3 : decode cX3_standing 3 = .ok (.istore_n 2, 1) := by decide +kernel
theorem dX3_standing_4 : decode cX3_standing 4 = .ok (.iload_n 2, 1) := by decide +kernel
theorem dX3_standing_5 : decode cX3_standing 5 = .ok (.aload_n 0, 1) := by decide +kernel
theorem dX3_standing_6 : decode cX3_standing 6 = .ok (.getfield 47, 3) := by decide +kernel
theorem dX3_standing_9 : decode cX3_standing 9 = .ok (.if_icmp .ge 39, 3) := by decide +kernel
theorem dX3_standing_12 : decode cX3_standing 12 = .ok (.aload_n 0, 1) := by decide +kernel
theorem dX3_standing_13 : decode cX3_standing 13 = .ok (.getfield 18, 3) := by decide +kernel
theorem dX3_standing_16 : decode cX3_standing 16 = .ok (.iload_n 2, 1) := by decide +kernel
theorem dX3_standing_17 : decode cX3_standing 17 = .ok (.iaload, 1) := by decide +kernel
theorem dX3_standing_18 : decode cX3_standing 18 = .ok (.aload_n 0, 1) := by decide +kernel
theorem dX3_standing_19 : decode cX3_standing 19 = .ok (.getfield 51, 3) := by decide +kernel
theorem dX3_standing_22 : decode cX3_standing 22 = .ok (.if_icmp .gt 20, 3) := by decide +kernel
theorem dX3_standing_25 : decode cX3_standing 25 = .ok (.aload_n 0, 1) := by decide +kernel
theorem dX3_standing_26 : decode cX3_standing 26 = .ok (.getfield 27, 3) := by decide +kernel
theorem dX3_standing_29 : decode cX3_standing 29 = .ok (.iload_n 2, 1) := by decide +kernel
theorem dX3_standing_30 : decode cX3_standing 30 = .ok (.iaload, 1) := by decide +kernel
theorem dX3_standing_31 : decode cX3_standing 31 = .ok (.ldc 66, 2) := by decide +kernel
theorem dX3_standing_33 : decode cX3_standing 33 = .ok (.if_icmp .ne 9, 3) := by decide +kernel
theorem dX3_standing_36 : decode cX3_standing 36 = .ok (.iload_n 1, 1) := by decide +kernel
theorem dX3_standing_37 : decode cX3_standing 37 = .ok (.iconst 1, 1) := by decide +kernel
theorem dX3_standing_38 : decode cX3_standing 38 = .ok (.iload_n 2, 1) := by decide +kernel
theorem dX3_standing_39 : decode cX3_standing 39 = .ok (.ishl, 1) := by decide +kernel
theorem dX3_standing_40 : decode cX3_standing 40 = .ok (.ior, 1) := by decide +kernel
theorem dX3_standing_41 : decode cX3_standing 41 = .ok (.istore_n 1, 1) := by decide +kernel
theorem dX3_standing_42 : decode cX3_standing 42 = .ok (.iinc 2 1, 3) := by decide +kernel
theorem dX3_standing_45 : decode cX3_standing 45 = .ok (.goto (-41), 3) := by decide +kernel
theorem dX3_standing_48 : decode cX3_standing 48 = .ok (.iload_n 1, 1) := by decide +kernel
theorem dX3_standing_49 : decode cX3_standing 49 = .ok (.ireturn, 1) := by decide +kernel
theorem dX3_readyOf_0 : decode cX3_readyOf 0 = .ok (.aload_n 0, 1) := by decide +kernel
theorem dX3_readyOf_1 : decode cX3_readyOf 1 = .ok (.getfield 51, 3) := by decide +kernel
theorem dX3_readyOf_4 : decode cX3_readyOf 4 = .ok (.bipush 11, 2) := by decide +kernel
theorem dX3_readyOf_6 : decode cX3_readyOf 6 = .ok (.if_icmp .ne 5, 3) := by decide +kernel
theorem dX3_readyOf_9 : decode cX3_readyOf 9 = .ok (.iload_n 1, 1) := by decide +kernel
theorem dX3_readyOf_10 : decode cX3_readyOf 10 = .ok (.ireturn, 1) := by decide +kernel
theorem dX3_readyOf_11 : decode cX3_readyOf 11 = .ok (.iload_n 1, 1) := by decide +kernel
theorem dX3_readyOf_12 : decode cX3_readyOf 12 = .ok (.invokestatic 97, 3) := by decide +kernel
theorem dX3_readyOf_15 : decode cX3_readyOf 15 = .ok (.iconst 3, 1) := by decide +kernel
theorem dX3_readyOf_16 : decode cX3_readyOf 16 = .ok (.if_icmp .lt 7, 3) := by decide +kernel
theorem dX3_readyOf_19 : decode cX3_readyOf 19 = .ok (.iconst 1, 1) := by decide +kernel
theorem dX3_readyOf_20 : decode cX3_readyOf 20 = .ok (.goto 4, 3) := by decide +kernel
theorem dX3_readyOf_23 : decode cX3_readyOf 23 = .ok (.iconst 0, 1) := by decide +kernel
theorem dX3_readyOf_24 : decode cX3_readyOf 24 = .ok (.istore_n 2, 1) := by decide +kernel
theorem dX3_readyOf_25 : decode cX3_readyOf 25 = .ok (.iconst 0, 1) := by decide +kernel
theorem dX3_readyOf_26 : decode cX3_readyOf 26 = .ok (.istore_n 3, 1) := by decide +kernel
theorem dX3_readyOf_27 : decode cX3_readyOf 27 = .ok (.iconst 0, 1) := by decide +kernel
theorem dX3_readyOf_28 : decode cX3_readyOf 28 = .ok (.istore 4, 2) := by decide +kernel
theorem dX3_readyOf_30 : decode cX3_readyOf 30 = .ok (.iload 4, 2) := by decide +kernel
theorem dX3_readyOf_32 : decode cX3_readyOf 32 = .ok (.aload_n 0, 1) := by decide +kernel
theorem dX3_readyOf_33 : decode cX3_readyOf 33 = .ok (.getfield 47, 3) := by decide +kernel
theorem dX3_readyOf_36 : decode cX3_readyOf 36 = .ok (.if_icmp .ge 35, 3) := by decide +kernel
theorem dX3_readyOf_39 : decode cX3_readyOf 39 = .ok (.iload_n 1, 1) := by decide +kernel
theorem dX3_readyOf_40 : decode cX3_readyOf 40 = .ok (.iload 4, 2) := by decide +kernel
theorem dX3_readyOf_42 : decode cX3_readyOf 42 = .ok (.ishr, 1) := by decide +kernel
theorem dX3_readyOf_43 : decode cX3_readyOf 43 = .ok (.iconst 1, 1) := by decide +kernel
theorem dX3_readyOf_44 : decode cX3_readyOf 44 = .ok (.iand, 1) := by decide +kernel
theorem dX3_readyOf_45 : decode cX3_readyOf 45 = .ok (.ifCond .eq 20, 3) := by decide +kernel
theorem dX3_readyOf_48 : decode cX3_readyOf 48 = .ok (.aload_n 0, 1) := by decide +kernel
theorem dX3_readyOf_49 : decode cX3_readyOf 49 = .ok (.iload 4, 2) := by decide +kernel
theorem dX3_readyOf_51 : decode cX3_readyOf 51 = .ok (.iload_n 2, 1) := by decide +kernel
theorem dX3_readyOf_52 : decode cX3_readyOf 52 = .ok (.invokevirtual 109, 3) := by decide +kernel
theorem dX3_readyOf_55 : decode cX3_readyOf 55 = .ok (.ifCond .eq 10, 3) := by decide +kernel
theorem dX3_readyOf_58 : decode cX3_readyOf 58 = .ok (.iload_n 3, 1) := by decide +kernel
theorem dX3_readyOf_59 : decode cX3_readyOf 59 = .ok (.iconst 1, 1) := by decide +kernel
theorem dX3_readyOf_60 : decode cX3_readyOf 60 = .ok (.iload 4, 2) := by decide +kernel
theorem dX3_readyOf_62 : decode cX3_readyOf 62 = .ok (.ishl, 1) := by decide +kernel
theorem dX3_readyOf_63 : decode cX3_readyOf 63 = .ok (.ior, 1) := by decide +kernel
theorem dX3_readyOf_64 : decode cX3_readyOf 64 = .ok (.istore_n 3, 1) := by decide +kernel
theorem dX3_readyOf_65 : decode cX3_readyOf 65 = .ok (.iinc 4 1, 3) := by decide +kernel
theorem dX3_readyOf_68 : decode cX3_readyOf 68 = .ok (.goto (-38), 3) := by decide +kernel
theorem dX3_readyOf_71 : decode cX3_readyOf 71 = .ok (.iload_n 3, 1) := by decide +kernel
theorem dX3_readyOf_72 : decode cX3_readyOf 72 = .ok (.ireturn, 1) := by decide +kernel
theorem dX3_isReady_0 : decode cX3_isReady 0 = .ok (.aload_n 0, 1) := by decide +kernel
theorem dX3_isReady_1 : decode cX3_isReady 1 = .ok (.getfield 51, 3) := by decide +kernel
theorem dX3_isReady_4 : decode cX3_isReady 4 = .ok (.aload_n 0, 1) := by decide +kernel
theorem dX3_isReady_5 : decode cX3_isReady 5 = .ok (.getfield 18, 3) := by decide +kernel
theorem dX3_isReady_8 : decode cX3_isReady 8 = .ok (.iload_n 1, 1) := by decide +kernel
theorem dX3_isReady_9 : decode cX3_isReady 9 = .ok (.iaload, 1) := by decide +kernel
theorem dX3_isReady_10 : decode cX3_isReady 10 = .ok (.aload_n 0, 1) := by decide +kernel
theorem dX3_isReady_11 : decode cX3_isReady 11 = .ok (.getfield 24, 3) := by decide +kernel
theorem dX3_isReady_14 : decode cX3_isReady 14 = .ok (.iload_n 1, 1) := by decide +kernel
theorem dX3_isReady_15 : decode cX3_isReady 15 = .ok (.iaload, 1) := by decide +kernel
theorem dX3_isReady_16 : decode cX3_isReady 16 = .ok (.iadd, 1) := by decide +kernel
theorem dX3_isReady_17 : decode cX3_isReady 17 = .ok (.if_icmp .lt 7, 3) := by decide +kernel
theorem dX3_isReady_20 : decode cX3_isReady 20 = .ok (.iconst 1, 1) := by decide +kernel
theorem dX3_isReady_21 : decode cX3_isReady 21 = .ok (.goto 4, 3) := by decide +kernel
theorem dX3_isReady_24 : decode cX3_isReady 24 = .ok (.iconst 0, 1) := by decide +kernel
theorem dX3_isReady_25 : decode cX3_isReady 25 = .ok (.istore_n 3, 1) := by decide +kernel
theorem dX3_isReady_26 : decode cX3_isReady 26 = .ok (.aload_n 0, 1) := by decide +kernel
theorem dX3_isReady_27 : decode cX3_isReady 27 = .ok (.getfield 15, 3) := by decide +kernel
theorem dX3_isReady_30 : decode cX3_isReady 30 = .ok (.iload_n 1, 1) := by decide +kernel
theorem dX3_isReady_31 : decode cX3_isReady 31 = .ok (.iaload, 1) := by decide +kernel
theorem dX3_isReady_32 : decode cX3_isReady 32 = .ok (.tableswitch 50 2 5 #[36, 34, 50, 32], 32) := by decide +kernel
theorem dX3_isReady_64 : decode cX3_isReady 64 = .ok (.iconst 1, 1) := by decide +kernel
theorem dX3_isReady_65 : decode cX3_isReady 65 = .ok (.ireturn, 1) := by decide +kernel
theorem dX3_isReady_66 : decode cX3_isReady 66 = .ok (.iconst 0, 1) := by decide +kernel
theorem dX3_isReady_67 : decode cX3_isReady 67 = .ok (.ireturn, 1) := by decide +kernel
theorem dX3_isReady_68 : decode cX3_isReady 68 = .ok (.iload_n 3, 1) := by decide +kernel
theorem dX3_isReady_69 : decode cX3_isReady 69 = .ok (.ifCond .ne 7, 3) := by decide +kernel
theorem dX3_isReady_72 : decode cX3_isReady 72 = .ok (.iload_n 2, 1) := by decide +kernel
theorem dX3_isReady_73 : decode cX3_isReady 73 = .ok (.ifCond .eq 7, 3) := by decide +kernel
theorem dX3_isReady_76 : decode cX3_isReady 76 = .ok (.iconst 1, 1) := by decide +kernel
theorem dX3_isReady_77 : decode cX3_isReady 77 = .ok (.goto 4, 3) := by decide +kernel
theorem dX3_isReady_80 : decode cX3_isReady 80 = .ok (.iconst 0, 1) := by decide +kernel
theorem dX3_isReady_81 : decode cX3_isReady 81 = .ok (.ireturn, 1) := by decide +kernel
theorem dX3_isReady_82 : decode cX3_isReady 82 = .ok (.iload_n 3, 1) := by decide +kernel
theorem dX3_isReady_83 : decode cX3_isReady 83 = .ok (.ireturn, 1) := by decide +kernel
theorem dX3_followersOf_0 : decode cX3_followersOf 0 = .ok (.iconst 0, 1) := by decide +kernel
theorem dX3_followersOf_1 : decode cX3_followersOf 1 = .ok (.istore_n 2, 1) := by decide +kernel
theorem dX3_followersOf_2 : decode cX3_followersOf 2 = .ok (.iconst 0, 1) := by decide +kernel
theorem dX3_followersOf_3 : decode cX3_followersOf 3 = .ok (.istore_n 3, 1) := by decide +kernel
theorem dX3_followersOf_4 : decode cX3_followersOf 4 = .ok (.iload_n 3, 1) := by decide +kernel
theorem dX3_followersOf_5 : decode cX3_followersOf 5 = .ok (.aload_n 0, 1) := by decide +kernel
theorem dX3_followersOf_6 : decode cX3_followersOf 6 = .ok (.getfield 47, 3) := by decide +kernel
theorem dX3_followersOf_9 : decode cX3_followersOf 9 = .ok (.if_icmp .ge 45, 3) := by decide +kernel
theorem dX3_followersOf_12 : decode cX3_followersOf 12 = .ok (.aload_n 0, 1) := by decide +kernel
theorem dX3_followersOf_13 : decode cX3_followersOf 13 = .ok (.getfield 15, 3) := by decide +kernel
theorem dX3_followersOf_16 : decode cX3_followersOf 16 = .ok (.iload_n 3, 1) := by decide +kernel
theorem dX3_followersOf_17 : decode cX3_followersOf 17 = .ok (.iaload, 1) := by decide +kernel
theorem dX3_followersOf_18 : decode cX3_followersOf 18 = .ok (.iconst 1, 1) := by decide +kernel
theorem dX3_followersOf_19 : decode cX3_followersOf 19 = .ok (.if_icmp .eq 23, 3) := by decide +kernel
theorem dX3_followersOf_22 : decode cX3_followersOf 22 = .ok (.aload_n 0, 1) := by decide +kernel
theorem dX3_followersOf_23 : decode cX3_followersOf 23 = .ok (.getfield 15, 3) := by decide +kernel
theorem dX3_followersOf_26 : decode cX3_followersOf 26 = .ok (.iload_n 3, 1) := by decide +kernel
theorem dX3_followersOf_27 : decode cX3_followersOf 27 = .ok (.iaload, 1) := by decide +kernel
theorem dX3_followersOf_28 : decode cX3_followersOf 28 = .ok (.iconst 2, 1) := by decide +kernel
theorem dX3_followersOf_29 : decode cX3_followersOf 29 = .ok (.if_icmp .eq 13, 3) := by decide +kernel
theorem dX3_followersOf_32 : decode cX3_followersOf 32 = .ok (.aload_n 0, 1) := by decide +kernel
theorem dX3_followersOf_33 : decode cX3_followersOf 33 = .ok (.getfield 15, 3) := by decide +kernel
theorem dX3_followersOf_36 : decode cX3_followersOf 36 = .ok (.iload_n 3, 1) := by decide +kernel
theorem dX3_followersOf_37 : decode cX3_followersOf 37 = .ok (.iaload, 1) := by decide +kernel
theorem dX3_followersOf_38 : decode cX3_followersOf 38 = .ok (.iconst 3, 1) := by decide +kernel
theorem dX3_followersOf_39 : decode cX3_followersOf 39 = .ok (.if_icmp .ne 9, 3) := by decide +kernel
theorem dX3_followersOf_42 : decode cX3_followersOf 42 = .ok (.iload_n 2, 1) := by decide +kernel
theorem dX3_followersOf_43 : decode cX3_followersOf 43 = .ok (.iconst 1, 1) := by decide +kernel
theorem dX3_followersOf_44 : decode cX3_followersOf 44 = .ok (.iload_n 3, 1) := by decide +kernel
theorem dX3_followersOf_45 : decode cX3_followersOf 45 = .ok (.ishl, 1) := by decide +kernel
theorem dX3_followersOf_46 : decode cX3_followersOf 46 = .ok (.ior, 1) := by decide +kernel
theorem dX3_followersOf_47 : decode cX3_followersOf 47 = .ok (.istore_n 2, 1) := by decide +kernel
theorem dX3_followersOf_48 : decode cX3_followersOf 48 = .ok (.iinc 3 1, 3) := by decide +kernel
theorem dX3_followersOf_51 : decode cX3_followersOf 51 = .ok (.goto (-47), 3) := by decide +kernel
theorem dX3_followersOf_54 : decode cX3_followersOf 54 = .ok (.iload_n 2, 1) := by decide +kernel
theorem dX3_followersOf_55 : decode cX3_followersOf 55 = .ok (.iload_n 1, 1) := by decide +kernel
theorem dX3_followersOf_56 : decode cX3_followersOf 56 = .ok (.iand, 1) := by decide +kernel
theorem dX3_followersOf_57 : decode cX3_followersOf 57 = .ok (.ireturn, 1) := by decide +kernel
theorem dX3_foremostOf_0 : decode cX3_foremostOf 0 = .ok (.iconst 0, 1) := by decide +kernel
theorem dX3_foremostOf_1 : decode cX3_foremostOf 1 = .ok (.istore_n 2, 1) := by decide +kernel
theorem dX3_foremostOf_2 : decode cX3_foremostOf 2 = .ok (.iconst 0, 1) := by decide +kernel
theorem dX3_foremostOf_3 : decode cX3_foremostOf 3 = .ok (.istore_n 3, 1) := by decide +kernel
theorem dX3_foremostOf_4 : decode cX3_foremostOf 4 = .ok (.iconst 0, 1) := by decide +kernel
theorem dX3_foremostOf_5 : decode cX3_foremostOf 5 = .ok (.istore 4, 2) := by decide +kernel
theorem dX3_foremostOf_7 : decode cX3_foremostOf 7 = .ok (.iload 4, 2) := by decide +kernel
theorem dX3_foremostOf_9 : decode cX3_foremostOf 9 = .ok (.aload_n 0, 1) := by decide +kernel
theorem dX3_foremostOf_10 : decode cX3_foremostOf 10 = .ok (.getfield 47, 3) := by decide +kernel
theorem dX3_foremostOf_13 : decode cX3_foremostOf 13 = .ok (.if_icmp .ge 37, 3) := by decide +kernel
theorem dX3_foremostOf_16 : decode cX3_foremostOf 16 = .ok (.iload_n 1, 1) := by decide +kernel
theorem dX3_foremostOf_17 : decode cX3_foremostOf 17 = .ok (.iload 4, 2) := by decide +kernel
theorem dX3_foremostOf_19 : decode cX3_foremostOf 19 = .ok (.ishr, 1) := by decide +kernel
theorem dX3_foremostOf_20 : decode cX3_foremostOf 20 = .ok (.iconst 1, 1) := by decide +kernel
theorem dX3_foremostOf_21 : decode cX3_foremostOf 21 = .ok (.iand, 1) := by decide +kernel
theorem dX3_foremostOf_22 : decode cX3_foremostOf 22 = .ok (.ifCond .eq 22, 3) := by decide +kernel
theorem dX3_foremostOf_25 : decode cX3_foremostOf 25 = .ok (.iload_n 3, 1) := by decide +kernel
theorem dX3_foremostOf_26 : decode cX3_foremostOf 26 = .ok (.ifCond .eq 13, 3) := by decide +kernel
theorem dX3_foremostOf_29 : decode cX3_foremostOf 29 = .ok (.aload_n 0, 1) := by decide +kernel
theorem dX3_foremostOf_30 : decode cX3_foremostOf 30 = .ok (.iload 4, 2) := by decide +kernel
theorem dX3_foremostOf_32 : decode cX3_foremostOf 32 = .ok (.iload_n 2, 1) := by decide +kernel
theorem dX3_foremostOf_33 : decode cX3_foremostOf 33 = .ok (.invokevirtual 113, 3) := by decide +kernel
theorem dX3_foremostOf_36 : decode cX3_foremostOf 36 = .ok (.ifCond .eq 8, 3) := by decide +kernel
theorem dX3_foremostOf_39 : decode cX3_foremostOf 39 = .ok (.iload 4, 2) := by decide +kernel
theorem dX3_foremostOf_41 : decode cX3_foremostOf 41 = .ok (.istore_n 2, 1) := by decide +kernel
theorem dX3_foremostOf_42 : decode cX3_foremostOf 42 = .ok (.iconst 1, 1) := by decide +kernel
theorem dX3_foremostOf_43 : decode cX3_foremostOf 43 = .ok (.istore_n 3, 1) := by decide +kernel
theorem dX3_foremostOf_44 : decode cX3_foremostOf 44 = .ok (.iinc 4 1, 3) := by decide +kernel
theorem dX3_foremostOf_47 : decode cX3_foremostOf 47 = .ok (.goto (-40), 3) := by decide +kernel
theorem dX3_foremostOf_50 : decode cX3_foremostOf 50 = .ok (.iload_n 2, 1) := by decide +kernel
theorem dX3_foremostOf_51 : decode cX3_foremostOf 51 = .ok (.ireturn, 1) := by decide +kernel
theorem dX3_isAhead_0 : decode cX3_isAhead 0 = .ok (.aload_n 0, 1) := by decide +kernel
theorem dX3_isAhead_1 : decode cX3_isAhead 1 = .ok (.getfield 15, 3) := by decide +kernel
theorem dX3_isAhead_4 : decode cX3_isAhead 4 = .ok (.iload_n 1, 1) := by decide +kernel
theorem dX3_isAhead_5 : decode cX3_isAhead 5 = .ok (.iaload, 1) := by decide +kernel
theorem dX3_isAhead_6 : decode cX3_isAhead 6 = .ok (.iconst 3, 1) := by decide +kernel
theorem dX3_isAhead_7 : decode cX3_isAhead 7 = .ok (.if_icmp .ne 7, 3) := by decide +kernel
theorem dX3_isAhead_10 : decode cX3_isAhead 10 = .ok (.iconst 1, 1) := by decide +kernel
theorem dX3_isAhead_11 : decode cX3_isAhead 11 = .ok (.goto 4, 3) := by decide +kernel
theorem dX3_isAhead_14 : decode cX3_isAhead 14 = .ok (.iconst 0, 1) := by decide +kernel
theorem dX3_isAhead_15 : decode cX3_isAhead 15 = .ok (.aload_n 0, 1) := by decide +kernel
theorem dX3_isAhead_16 : decode cX3_isAhead 16 = .ok (.getfield 15, 3) := by decide +kernel
theorem dX3_isAhead_19 : decode cX3_isAhead 19 = .ok (.iload_n 2, 1) := by decide +kernel
theorem dX3_isAhead_20 : decode cX3_isAhead 20 = .ok (.iaload, 1) := by decide +kernel
theorem dX3_isAhead_21 : decode cX3_isAhead 21 = .ok (.iconst 3, 1) := by decide +kernel
theorem dX3_isAhead_22 : decode cX3_isAhead 22 = .ok (.if_icmp .ne 7, 3) := by decide +kernel
theorem dX3_isAhead_25 : decode cX3_isAhead 25 = .ok (.iconst 1, 1) := by decide +kernel
theorem dX3_isAhead_26 : decode cX3_isAhead 26 = .ok (.goto 4, 3) := by decide +kernel
theorem dX3_isAhead_29 : decode cX3_isAhead 29 = .ok (.iconst 0, 1) := by decide +kernel
theorem dX3_isAhead_30 : decode cX3_isAhead 30 = .ok (.if_icmp .eq 19, 3) := by decide +kernel
theorem dX3_isAhead_33 : decode cX3_isAhead 33 = .ok (.aload_n 0, 1) := by decide +kernel
theorem dX3_isAhead_34 : decode cX3_isAhead 34 = .ok (.getfield 15, 3) := by decide +kernel
theorem dX3_isAhead_37 : decode cX3_isAhead 37 = .ok (.iload_n 2, 1) := by decide +kernel
theorem dX3_isAhead_38 : decode cX3_isAhead 38 = .ok (.iaload, 1) := by decide +kernel
theorem dX3_isAhead_39 : decode cX3_isAhead 39 = .ok (.iconst 3, 1) := by decide +kernel
theorem dX3_isAhead_40 : decode cX3_isAhead 40 = .ok (.if_icmp .ne 7, 3) := by decide +kernel
theorem dX3_isAhead_43 : decode cX3_isAhead 43 = .ok (.iconst 1, 1) := by decide +kernel
theorem dX3_isAhead_44 : decode cX3_isAhead 44 = .ok (.goto 4, 3) := by decide +kernel
theorem dX3_isAhead_47 : decode cX3_isAhead 47 = .ok (.iconst 0, 1) := by decide +kernel
theorem dX3_isAhead_48 : decode cX3_isAhead 48 = .ok (.ireturn, 1) := by decide +kernel
theorem dX3_isAhead_49 : decode cX3_isAhead 49 = .ok (.aload_n 0, 1) := by decide +kernel
theorem dX3_isAhead_50 : decode cX3_isAhead 50 = .ok (.getfield 33, 3) := by decide +kernel
theorem dX3_isAhead_53 : decode cX3_isAhead 53 = .ok (.iload_n 1, 1) := by decide +kernel
theorem dX3_isAhead_54 : decode cX3_isAhead 54 = .ok (.iaload, 1) := by decide +kernel
theorem dX3_isAhead_55 : decode cX3_isAhead 55 = .ok (.aload_n 0, 1) := by decide +kernel
theorem dX3_isAhead_56 : decode cX3_isAhead 56 = .ok (.getfield 33, 3) := by decide +kernel
theorem dX3_isAhead_59 : decode cX3_isAhead 59 = .ok (.iload_n 2, 1) := by decide +kernel
theorem dX3_isAhead_60 : decode cX3_isAhead 60 = .ok (.iaload, 1) := by decide +kernel
theorem dX3_isAhead_61 : decode cX3_isAhead 61 = .ok (.if_icmp .eq 24, 3) := by decide +kernel
theorem dX3_isAhead_64 : decode cX3_isAhead 64 = .ok (.aload_n 0, 1) := by decide +kernel
theorem dX3_isAhead_65 : decode cX3_isAhead 65 = .ok (.getfield 33, 3) := by decide +kernel
theorem dX3_isAhead_68 : decode cX3_isAhead 68 = .ok (.iload_n 1, 1) := by decide +kernel
theorem dX3_isAhead_69 : decode cX3_isAhead 69 = .ok (.iaload, 1) := by decide +kernel
theorem dX3_isAhead_70 : decode cX3_isAhead 70 = .ok (.aload_n 0, 1) := by decide +kernel
theorem dX3_isAhead_71 : decode cX3_isAhead 71 = .ok (.getfield 33, 3) := by decide +kernel
theorem dX3_isAhead_74 : decode cX3_isAhead 74 = .ok (.iload_n 2, 1) := by decide +kernel
theorem dX3_isAhead_75 : decode cX3_isAhead 75 = .ok (.iaload, 1) := by decide +kernel
theorem dX3_isAhead_76 : decode cX3_isAhead 76 = .ok (.if_icmp .ge 7, 3) := by decide +kernel
theorem dX3_isAhead_79 : decode cX3_isAhead 79 = .ok (.iconst 1, 1) := by decide +kernel
theorem dX3_isAhead_80 : decode cX3_isAhead 80 = .ok (.goto 4, 3) := by decide +kernel
theorem dX3_isAhead_83 : decode cX3_isAhead 83 = .ok (.iconst 0, 1) := by decide +kernel
theorem dX3_isAhead_84 : decode cX3_isAhead 84 = .ok (.ireturn, 1) := by decide +kernel
theorem dX3_isAhead_85 : decode cX3_isAhead 85 = .ok (.aload_n 0, 1) := by decide +kernel
theorem dX3_isAhead_86 : decode cX3_isAhead 86 = .ok (.getfield 18, 3) := by decide +kernel
theorem dX3_isAhead_89 : decode cX3_isAhead 89 = .ok (.iload_n 1, 1) := by decide +kernel
theorem dX3_isAhead_90 : decode cX3_isAhead 90 = .ok (.iaload, 1) := by decide +kernel
theorem dX3_isAhead_91 : decode cX3_isAhead 91 = .ok (.aload_n 0, 1) := by decide +kernel
theorem dX3_isAhead_92 : decode cX3_isAhead 92 = .ok (.getfield 18, 3) := by decide +kernel
theorem dX3_isAhead_95 : decode cX3_isAhead 95 = .ok (.iload_n 2, 1) := by decide +kernel
theorem dX3_isAhead_96 : decode cX3_isAhead 96 = .ok (.iaload, 1) := by decide +kernel
theorem dX3_isAhead_97 : decode cX3_isAhead 97 = .ok (.if_icmp .ge 7, 3) := by decide +kernel
theorem dX3_isAhead_100 : decode cX3_isAhead 100 = .ok (.iconst 1, 1) := by decide +kernel
theorem dX3_isAhead_101 : decode cX3_isAhead 101 = .ok (.goto 4, 3) := by decide +kernel
theorem dX3_isAhead_104 : decode cX3_isAhead 104 = .ok (.iconst 0, 1) := by decide +kernel
theorem dX3_isAhead_105 : decode cX3_isAhead 105 = .ok (.ireturn, 1) := by decide +kernel
theorem dX3_markGone_0 : decode cX3_markGone 0 = .ok (.iconst 0, 1) := by decide +kernel
theorem dX3_markGone_1 : decode cX3_markGone 1 = .ok (.istore_n 2, 1) := by decide +kernel
theorem dX3_markGone_2 : decode cX3_markGone 2 = .ok (.iload_n 2, 1) := by decide +kernel
theorem dX3_markGone_3 : decode cX3_markGone 3 = .ok (.aload_n 0, 1) := by decide +kernel
theorem dX3_markGone_4 : decode cX3_markGone 4 = .ok (.getfield 47, 3) := by decide +kernel
theorem dX3_markGone_7 : decode cX3_markGone 7 = .ok (.if_icmp .ge 27, 3) := by decide +kernel
theorem dX3_markGone_10 : decode cX3_markGone 10 = .ok (.iload_n 1, 1) := by decide +kernel
theorem dX3_markGone_11 : decode cX3_markGone 11 = .ok (.iload_n 2, 1) := by decide +kernel
theorem dX3_markGone_12 : decode cX3_markGone 12 = .ok (.ishr, 1) := by decide +kernel
theorem dX3_markGone_13 : decode cX3_markGone 13 = .ok (.iconst 1, 1) := by decide +kernel
theorem dX3_markGone_14 : decode cX3_markGone 14 = .ok (.iand, 1) := by decide +kernel
theorem dX3_markGone_15 : decode cX3_markGone 15 = .ok (.ifCond .eq 13, 3) := by decide +kernel
theorem dX3_markGone_18 : decode cX3_markGone 18 = .ok (.aload_n 0, 1) := by decide +kernel
theorem dX3_markGone_19 : decode cX3_markGone 19 = .ok (.getfield 27, 3) := by decide +kernel
theorem dX3_markGone_22 : decode cX3_markGone 22 = .ok (.iload_n 2, 1) := by decide +kernel
theorem dX3_markGone_23 : decode cX3_markGone 23 = .ok (.aload_n 0, 1) := by decide +kernel
theorem dX3_markGone_24 : decode cX3_markGone 24 = .ok (.getfield 51, 3) := by decide +kernel
theorem dX3_markGone_27 : decode cX3_markGone 27 = .ok (.iastore, 1) := by decide +kernel
theorem dX3_markGone_28 : decode cX3_markGone 28 = .ok (.iinc 2 1, 3) := by decide +kernel
theorem dX3_markGone_31 : decode cX3_markGone 31 = .ok (.goto (-29), 3) := by decide +kernel
theorem dX3_markGone_34 : decode cX3_markGone 34 = .ok (.return_, 1) := by decide +kernel
theorem dX3_tollFor_0 : decode cX3_tollFor 0 = .ok (.iload_n 1, 1) := by decide +kernel
theorem dX3_tollFor_1 : decode cX3_tollFor 1 = .ok (.iconst 1, 1) := by decide +kernel
theorem dX3_tollFor_2 : decode cX3_tollFor 2 = .ok (.if_icmp .ge 7, 3) := by decide +kernel
theorem dX3_tollFor_5 : decode cX3_tollFor 5 = .ok (.iconst 0, 1) := by decide +kernel
theorem dX3_tollFor_6 : decode cX3_tollFor 6 = .ok (.goto 16, 3) := by decide +kernel
theorem dX3_tollFor_9 : decode cX3_tollFor 9 = .ok (.aload_n 0, 1) := by decide +kernel
theorem dX3_tollFor_10 : decode cX3_tollFor 10 = .ok (.getfield 9, 3) := by decide +kernel
theorem dX3_tollFor_13 : decode cX3_tollFor 13 = .ok (.iload_n 1, 1) := by decide +kernel
theorem dX3_tollFor_14 : decode cX3_tollFor 14 = .ok (.bipush 6, 2) := by decide +kernel
theorem dX3_tollFor_16 : decode cX3_tollFor 16 = .ok (.invokestatic 54, 3) := by decide +kernel
theorem dX3_tollFor_19 : decode cX3_tollFor 19 = .ok (.iconst 1, 1) := by decide +kernel
theorem dX3_tollFor_20 : decode cX3_tollFor 20 = .ok (.isub, 1) := by decide +kernel
theorem dX3_tollFor_21 : decode cX3_tollFor 21 = .ok (.iaload, 1) := by decide +kernel
theorem dX3_tollFor_22 : decode cX3_tollFor 22 = .ok (.ireturn, 1) := by decide +kernel
theorem dX3_costOf_0 : decode cX3_costOf 0 = .ok (.aload_n 0, 1) := by decide +kernel
theorem dX3_costOf_1 : decode cX3_costOf 1 = .ok (.getfield 27, 3) := by decide +kernel
theorem dX3_costOf_4 : decode cX3_costOf 4 = .ok (.iload_n 1, 1) := by decide +kernel
theorem dX3_costOf_5 : decode cX3_costOf 5 = .ok (.iaload, 1) := by decide +kernel
theorem dX3_costOf_6 : decode cX3_costOf 6 = .ok (.ldc 66, 2) := by decide +kernel
theorem dX3_costOf_8 : decode cX3_costOf 8 = .ok (.if_icmp .ne 8, 3) := by decide +kernel
theorem dX3_costOf_11 : decode cX3_costOf 11 = .ok (.ldc 66, 2) := by decide +kernel
theorem dX3_costOf_13 : decode cX3_costOf 13 = .ok (.goto 30, 3) := by decide +kernel
theorem dX3_costOf_16 : decode cX3_costOf 16 = .ok (.aload_n 0, 1) := by decide +kernel
theorem dX3_costOf_17 : decode cX3_costOf 17 = .ok (.getfield 21, 3) := by decide +kernel
theorem dX3_costOf_20 : decode cX3_costOf 20 = .ok (.iload_n 1, 1) := by decide +kernel
theorem dX3_costOf_21 : decode cX3_costOf 21 = .ok (.iaload, 1) := by decide +kernel
theorem dX3_costOf_22 : decode cX3_costOf 22 = .ok (.aload_n 0, 1) := by decide +kernel
theorem dX3_costOf_23 : decode cX3_costOf 23 = .ok (.getfield 27, 3) := by decide +kernel
theorem dX3_costOf_26 : decode cX3_costOf 26 = .ok (.iload_n 1, 1) := by decide +kernel
theorem dX3_costOf_27 : decode cX3_costOf 27 = .ok (.iaload, 1) := by decide +kernel
theorem dX3_costOf_28 : decode cX3_costOf 28 = .ok (.aload_n 0, 1) := by decide +kernel
theorem dX3_costOf_29 : decode cX3_costOf 29 = .ok (.getfield 18, 3) := by decide +kernel
theorem dX3_costOf_32 : decode cX3_costOf 32 = .ok (.iload_n 1, 1) := by decide +kernel
theorem dX3_costOf_33 : decode cX3_costOf 33 = .ok (.iaload, 1) := by decide +kernel
theorem dX3_costOf_34 : decode cX3_costOf 34 = .ok (.isub, 1) := by decide +kernel
theorem dX3_costOf_35 : decode cX3_costOf 35 = .ok (.imul, 1) := by decide +kernel
theorem dX3_costOf_36 : decode cX3_costOf 36 = .ok (.aload_n 0, 1) := by decide +kernel
theorem dX3_costOf_37 : decode cX3_costOf 37 = .ok (.getfield 30, 3) := by decide +kernel
theorem dX3_costOf_40 : decode cX3_costOf 40 = .ok (.iload_n 1, 1) := by decide +kernel
theorem dX3_costOf_41 : decode cX3_costOf 41 = .ok (.iaload, 1) := by decide +kernel
theorem dX3_costOf_42 : decode cX3_costOf 42 = .ok (.iadd, 1) := by decide +kernel
theorem dX3_costOf_43 : decode cX3_costOf 43 = .ok (.ireturn, 1) := by decide +kernel
theorem dX3_cartsGone_0 : decode cX3_cartsGone 0 = .ok (.iconst 0, 1) := by decide +kernel
theorem dX3_cartsGone_1 : decode cX3_cartsGone 1 = .ok (.istore_n 1, 1) := by decide +kernel
theorem dX3_cartsGone_2 : decode cX3_cartsGone 2 = .ok (.iconst 0, 1) := by decide +kernel
theorem dX3_cartsGone_3 : decode cX3_cartsGone 3 = .ok (.istore_n 2, 1) := by decide +kernel
theorem dX3_cartsGone_4 : decode cX3_cartsGone 4 = .ok (.iload_n 2, 1) := by decide +kernel
theorem dX3_cartsGone_5 : decode cX3_cartsGone 5 = .ok (.aload_n 0, 1) := by decide +kernel
theorem dX3_cartsGone_6 : decode cX3_cartsGone 6 = .ok (.getfield 47, 3) := by decide +kernel
theorem dX3_cartsGone_9 : decode cX3_cartsGone 9 = .ok (.if_icmp .ge 23, 3) := by decide +kernel
theorem dX3_cartsGone_12 : decode cX3_cartsGone 12 = .ok (.aload_n 0, 1) := by decide +kernel
theorem dX3_cartsGone_13 : decode cX3_cartsGone 13 = .ok (.getfield 27, 3) := by decide +kernel
theorem dX3_cartsGone_16 : decode cX3_cartsGone 16 = .ok (.iload_n 2, 1) := by decide +kernel
theorem dX3_cartsGone_17 : decode cX3_cartsGone 17 = .ok (.iaload, 1) := by decide +kernel
theorem dX3_cartsGone_18 : decode cX3_cartsGone 18 = .ok (.ldc 66, 2) := by decide +kernel
theorem dX3_cartsGone_20 : decode cX3_cartsGone 20 = .ok (.if_icmp .eq 6, 3) := by decide +kernel
theorem dX3_cartsGone_23 : decode cX3_cartsGone 23 = .ok (.iinc 1 1, 3) := by decide +kernel
theorem dX3_cartsGone_26 : decode cX3_cartsGone 26 = .ok (.iinc 2 1, 3) := by decide +kernel
theorem dX3_cartsGone_29 : decode cX3_cartsGone 29 = .ok (.goto (-25), 3) := by decide +kernel
theorem dX3_cartsGone_32 : decode cX3_cartsGone 32 = .ok (.iload_n 1, 1) := by decide +kernel
theorem dX3_cartsGone_33 : decode cX3_cartsGone 33 = .ok (.ireturn, 1) := by decide +kernel
theorem dX3_paidInAll_0 : decode cX3_paidInAll 0 = .ok (.iconst 0, 1) := by decide +kernel
theorem dX3_paidInAll_1 : decode cX3_paidInAll 1 = .ok (.istore_n 1, 1) := by decide +kernel
theorem dX3_paidInAll_2 : decode cX3_paidInAll 2 = .ok (.iconst 0, 1) := by decide +kernel
theorem dX3_paidInAll_3 : decode cX3_paidInAll 3 = .ok (.istore_n 2, 1) := by decide +kernel
theorem dX3_paidInAll_4 : decode cX3_paidInAll 4 = .ok (.iload_n 2, 1) := by decide +kernel
theorem dX3_paidInAll_5 : decode cX3_paidInAll 5 = .ok (.aload_n 0, 1) := by decide +kernel
theorem dX3_paidInAll_6 : decode cX3_paidInAll 6 = .ok (.getfield 47, 3) := by decide +kernel
theorem dX3_paidInAll_9 : decode cX3_paidInAll 9 = .ok (.if_icmp .ge 18, 3) := by decide +kernel
theorem dX3_paidInAll_12 : decode cX3_paidInAll 12 = .ok (.iload_n 1, 1) := by decide +kernel
theorem dX3_paidInAll_13 : decode cX3_paidInAll 13 = .ok (.aload_n 0, 1) := by decide +kernel
theorem dX3_paidInAll_14 : decode cX3_paidInAll 14 = .ok (.getfield 30, 3) := by decide +kernel
theorem dX3_paidInAll_17 : decode cX3_paidInAll 17 = .ok (.iload_n 2, 1) := by decide +kernel
theorem dX3_paidInAll_18 : decode cX3_paidInAll 18 = .ok (.iaload, 1) := by decide +kernel
theorem dX3_paidInAll_19 : decode cX3_paidInAll 19 = .ok (.iadd, 1) := by decide +kernel
theorem dX3_paidInAll_20 : decode cX3_paidInAll 20 = .ok (.istore_n 1, 1) := by decide +kernel
theorem dX3_paidInAll_21 : decode cX3_paidInAll 21 = .ok (.iinc 2 1, 3) := by decide +kernel
theorem dX3_paidInAll_24 : decode cX3_paidInAll 24 = .ok (.goto (-20), 3) := by decide +kernel
theorem dX3_paidInAll_27 : decode cX3_paidInAll 27 = .ok (.iload_n 1, 1) := by decide +kernel
theorem dX3_paidInAll_28 : decode cX3_paidInAll 28 = .ok (.ireturn, 1) := by decide +kernel
theorem dX3_greatestShares_0 : decode cX3_greatestShares 0 = .ok (.iload_n 1, 1) := by decide +kernel
theorem dX3_greatestShares_1 : decode cX3_greatestShares 1 = .ok (.iconst 1, 1) := by decide +kernel
theorem dX3_greatestShares_2 : decode cX3_greatestShares 2 = .ok (.if_icmp .ge 5, 3) := by decide +kernel
theorem dX3_greatestShares_5 : decode cX3_greatestShares 5 = .ok (.iconst 0, 1) := by decide +kernel
theorem dX3_greatestShares_6 : decode cX3_greatestShares 6 = .ok (.ireturn, 1) := by decide +kernel
theorem dX3_greatestShares_7 : decode cX3_greatestShares 7 = .ok (.iload_n 2, 1) := by decide +kernel
theorem dX3_greatestShares_8 : decode cX3_greatestShares 8 = .ok (.aload_n 0, 1) := by decide +kernel
theorem dX3_greatestShares_9 : decode cX3_greatestShares 9 = .ok (.iload_n 1, 1) := by decide +kernel
theorem dX3_greatestShares_10 : decode cX3_greatestShares 10 = .ok (.invokevirtual 102, 3) := by decide +kernel
theorem dX3_greatestShares_13 : decode cX3_greatestShares 13 = .ok (.iload_n 1, 1) := by decide +kernel
theorem dX3_greatestShares_14 : decode cX3_greatestShares 14 = .ok (.idiv, 1) := by decide +kernel
theorem dX3_greatestShares_15 : decode cX3_greatestShares 15 = .ok (.imul, 1) := by decide +kernel
theorem dX3_greatestShares_16 : decode cX3_greatestShares 16 = .ok (.iload_n 2, 1) := by decide +kernel
theorem dX3_greatestShares_17 : decode cX3_greatestShares 17 = .ok (.aload_n 0, 1) := by decide +kernel
theorem dX3_greatestShares_18 : decode cX3_greatestShares 18 = .ok (.iload_n 1, 1) := by decide +kernel
theorem dX3_greatestShares_19 : decode cX3_greatestShares 19 = .ok (.invokevirtual 102, 3) := by decide +kernel
theorem dX3_greatestShares_22 : decode cX3_greatestShares 22 = .ok (.iload_n 1, 1) := by decide +kernel
theorem dX3_greatestShares_23 : decode cX3_greatestShares 23 = .ok (.irem, 1) := by decide +kernel
theorem dX3_greatestShares_24 : decode cX3_greatestShares 24 = .ok (.invokestatic 54, 3) := by decide +kernel
theorem dX3_greatestShares_27 : decode cX3_greatestShares 27 = .ok (.iadd, 1) := by decide +kernel
theorem dX3_greatestShares_28 : decode cX3_greatestShares 28 = .ok (.ireturn, 1) := by decide +kernel
theorem dX3_holds_0 : decode cX3_holds 0 = .ok (.iconst 1, 1) := by decide +kernel
theorem dX3_holds_1 : decode cX3_holds 1 = .ok (.istore_n 2, 1) := by decide +kernel
theorem dX3_holds_2 : decode cX3_holds 2 = .ok (.iload_n 2, 1) := by decide +kernel
theorem dX3_holds_3 : decode cX3_holds 3 = .ok (.iload_n 1, 1) := by decide +kernel
theorem dX3_holds_4 : decode cX3_holds 4 = .ok (.if_icmp .ge 25, 3) := by decide +kernel
theorem dX3_holds_7 : decode cX3_holds 7 = .ok (.aload_n 0, 1) := by decide +kernel
theorem dX3_holds_8 : decode cX3_holds 8 = .ok (.iload_n 1, 1) := by decide +kernel
theorem dX3_holds_9 : decode cX3_holds 9 = .ok (.iload_n 2, 1) := by decide +kernel
theorem dX3_holds_10 : decode cX3_holds 10 = .ok (.invokevirtual 117, 3) := by decide +kernel
theorem dX3_holds_13 : decode cX3_holds 13 = .ok (.aload_n 0, 1) := by decide +kernel
theorem dX3_holds_14 : decode cX3_holds 14 = .ok (.iload_n 2, 1) := by decide +kernel
theorem dX3_holds_15 : decode cX3_holds 15 = .ok (.invokevirtual 102, 3) := by decide +kernel
theorem dX3_holds_18 : decode cX3_holds 18 = .ok (.if_icmp .le 5, 3) := by decide +kernel
theorem dX3_holds_21 : decode cX3_holds 21 = .ok (.iconst 0, 1) := by decide +kernel
theorem dX3_holds_22 : decode cX3_holds 22 = .ok (.ireturn, 1) := by decide +kernel
theorem dX3_holds_23 : decode cX3_holds 23 = .ok (.iinc 2 1, 3) := by decide +kernel
theorem dX3_holds_26 : decode cX3_holds 26 = .ok (.goto (-24), 3) := by decide +kernel
theorem dX3_holds_29 : decode cX3_holds 29 = .ok (.iconst 1, 1) := by decide +kernel
theorem dX3_holds_30 : decode cX3_holds 30 = .ok (.ireturn, 1) := by decide +kernel
theorem dX3_cheapestSize_0 : decode cX3_cheapestSize 0 = .ok (.iconst 1, 1) := by decide +kernel
theorem dX3_cheapestSize_1 : decode cX3_cheapestSize 1 = .ok (.istore_n 1, 1) := by decide +kernel
theorem dX3_cheapestSize_2 : decode cX3_cheapestSize 2 = .ok (.iconst 2, 1) := by decide +kernel
theorem dX3_cheapestSize_3 : decode cX3_cheapestSize 3 = .ok (.istore_n 2, 1) := by decide +kernel
theorem dX3_cheapestSize_4 : decode cX3_cheapestSize 4 = .ok (.iload_n 2, 1) := by decide +kernel
theorem dX3_cheapestSize_5 : decode cX3_cheapestSize 5 = .ok (.bipush 6, 2) := by decide +kernel
theorem dX3_cheapestSize_7 : decode cX3_cheapestSize 7 = .ok (.if_icmp .gt 28, 3) := by decide +kernel
theorem dX3_cheapestSize_10 : decode cX3_cheapestSize 10 = .ok (.aload_n 0, 1) := by decide +kernel
theorem dX3_cheapestSize_11 : decode cX3_cheapestSize 11 = .ok (.iload_n 2, 1) := by decide +kernel
theorem dX3_cheapestSize_12 : decode cX3_cheapestSize 12 = .ok (.invokevirtual 102, 3) := by decide +kernel
theorem dX3_cheapestSize_15 : decode cX3_cheapestSize 15 = .ok (.iload_n 1, 1) := by decide +kernel
theorem dX3_cheapestSize_16 : decode cX3_cheapestSize 16 = .ok (.imul, 1) := by decide +kernel
theorem dX3_cheapestSize_17 : decode cX3_cheapestSize 17 = .ok (.aload_n 0, 1) := by decide +kernel
theorem dX3_cheapestSize_18 : decode cX3_cheapestSize 18 = .ok (.iload_n 1, 1) := by decide +kernel
theorem dX3_cheapestSize_19 : decode cX3_cheapestSize 19 = .ok (.invokevirtual 102, 3) := by decide +kernel
theorem dX3_cheapestSize_22 : decode cX3_cheapestSize 22 = .ok (.iload_n 2, 1) := by decide +kernel
theorem dX3_cheapestSize_23 : decode cX3_cheapestSize 23 = .ok (.imul, 1) := by decide +kernel
theorem dX3_cheapestSize_24 : decode cX3_cheapestSize 24 = .ok (.if_icmp .ge 5, 3) := by decide +kernel
theorem dX3_cheapestSize_27 : decode cX3_cheapestSize 27 = .ok (.iload_n 2, 1) := by decide +kernel
theorem dX3_cheapestSize_28 : decode cX3_cheapestSize 28 = .ok (.istore_n 1, 1) := by decide +kernel
theorem dX3_cheapestSize_29 : decode cX3_cheapestSize 29 = .ok (.iinc 2 1, 3) := by decide +kernel
theorem dX3_cheapestSize_32 : decode cX3_cheapestSize 32 = .ok (.goto (-28), 3) := by decide +kernel
theorem dX3_cheapestSize_35 : decode cX3_cheapestSize 35 = .ok (.iload_n 1, 1) := by decide +kernel
theorem dX3_cheapestSize_36 : decode cX3_cheapestSize 36 = .ok (.ireturn, 1) := by decide +kernel
theorem dX4_init_0 : decode cX4_init 0 = .ok (.aload_n 0, 1) := by decide +kernel
theorem dX4_init_1 : decode cX4_init 1 = .ok (.invokespecial 3, 3) := by decide +kernel
theorem dX4_init_4 : decode cX4_init 4 = .ok (.aload_n 0, 1) := by decide +kernel
theorem dX4_init_5 : decode cX4_init 5 = .ok (.sipush 400, 3) := by decide +kernel
theorem dX4_init_8 : decode cX4_init 8 = .ok (.newarray .byte, 2) := by decide +kernel
theorem dX4_init_10 : decode cX4_init 10 = .ok (.putfield 9, 3) := by decide +kernel
theorem dX4_init_13 : decode cX4_init 13 = .ok (.aload_n 0, 1) := by decide +kernel
theorem dX4_init_14 : decode cX4_init 14 = .ok (.new 15, 3) := by decide +kernel
theorem dX4_init_17 : decode cX4_init 17 = .ok (.dup, 1) := by decide +kernel
theorem dX4_init_18 : decode cX4_init 18 = .ok (.invokespecial 17, 3) := by decide +kernel
theorem dX4_init_21 : decode cX4_init 21 = .ok (.putfield 18, 3) := by decide +kernel
theorem dX4_init_24 : decode cX4_init 24 = .ok (.return_, 1) := by decide +kernel
theorem dX4_readPass_0 : decode cX4_readPass 0 = .ok (.aload_n 0, 1) := by decide +kernel
theorem dX4_readPass_1 : decode cX4_readPass 1 = .ok (.getfield 18, 3) := by decide +kernel
theorem dX4_readPass_4 : decode cX4_readPass 4 = .ok (.iconst 0, 1) := by decide +kernel
theorem dX4_readPass_5 : decode cX4_readPass 5 = .ok (.putfield 22, 3) := by decide +kernel
theorem dX4_readPass_8 : decode cX4_readPass 8 = .ok (.aload_n 0, 1) := by decide +kernel
theorem dX4_readPass_9 : decode cX4_readPass 9 = .ok (.getfield 18, 3) := by decide +kernel
theorem dX4_readPass_12 : decode cX4_readPass 12 = .ok (.iconst 1, 1) := by decide +kernel
theorem dX4_readPass_13 : decode cX4_readPass 13 = .ok (.putfield 26, 3) := by decide +kernel
theorem dX4_readPass_16 : decode cX4_readPass 16 = .ok (.aload_n 0, 1) := by decide +kernel
theorem dX4_readPass_17 : decode cX4_readPass 17 = .ok (.iconst 0, 1) := by decide +kernel
theorem dX4_readPass_18 : decode cX4_readPass 18 = .ok (.putfield 30, 3) := by decide +kernel
theorem dX4_readPass_21 : decode cX4_readPass 21 = .ok (.aload_n 0, 1) := by decide +kernel
theorem dX4_readPass_22 : decode cX4_readPass 22 = .ok (.iconst 0, 1) := by decide +kernel
theorem dX4_readPass_23 : decode cX4_readPass 23 = .ok (.putfield 33, 3) := by decide +kernel
theorem dX4_readPass_26 : decode cX4_readPass 26 = .ok (.aload_n 0, 1) := by decide +kernel
theorem dX4_readPass_27 : decode cX4_readPass 27 = .ok (.invokevirtual 36, 3) := by decide +kernel
theorem dX4_readPass_30 : decode cX4_readPass 30 = .ok (.ifCond .ne 5, 3) := by decide +kernel
theorem dX4_readPass_33 : decode cX4_readPass 33 = .ok (.iconst 0, 1) := by decide +kernel
theorem dX4_readPass_34 : decode cX4_readPass 34 = .ok (.ireturn, 1) := by decide +kernel
theorem dX4_readPass_35 : decode cX4_readPass 35 = .ok (.iconst 0, 1) := by decide +kernel
theorem dX4_readPass_36 : decode cX4_readPass 36 = .ok (.istore_n 1, 1) := by decide +kernel
theorem dX4_readPass_37 : decode cX4_readPass 37 = .ok (.iload_n 1, 1) := by decide +kernel
theorem dX4_readPass_38 : decode cX4_readPass 38 = .ok (.bipush 6, 2) := by decide +kernel
theorem dX4_readPass_40 : decode cX4_readPass 40 = .ok (.if_icmp .gt 38, 3) := by decide +kernel
theorem dX4_readPass_43 : decode cX4_readPass 43 = .ok (.aload_n 0, 1) := by decide +kernel
theorem dX4_readPass_44 : decode cX4_readPass 44 = .ok (.invokevirtual 40, 3) := by decide +kernel
theorem dX4_readPass_47 : decode cX4_readPass 47 = .ok (.aload_n 0, 1) := by decide +kernel
theorem dX4_readPass_48 : decode cX4_readPass 48 = .ok (.getfield 43, 3) := by decide +kernel
theorem dX4_readPass_51 : decode cX4_readPass 51 = .ok (.ifCond .ne 12, 3) := by decide +kernel
theorem dX4_readPass_54 : decode cX4_readPass 54 = .ok (.aload_n 0, 1) := by decide +kernel
theorem dX4_readPass_55 : decode cX4_readPass 55 = .ok (.getfield 18, 3) := by decide +kernel
theorem dX4_readPass_58 : decode cX4_readPass 58 = .ok (.invokevirtual 46, 3) := by decide +kernel
theorem dX4_readPass_61 : decode cX4_readPass 61 = .ok (.iconst 1, 1) := by decide +kernel
theorem dX4_readPass_62 : decode cX4_readPass 62 = .ok (.ireturn, 1) := by decide +kernel
theorem dX4_readPass_63 : decode cX4_readPass 63 = .ok (.aload_n 0, 1) := by decide +kernel
theorem dX4_readPass_64 : decode cX4_readPass 64 = .ok (.invokevirtual 49, 3) := by decide +kernel
theorem dX4_readPass_67 : decode cX4_readPass 67 = .ok (.ifCond .ne 5, 3) := by decide +kernel
theorem dX4_readPass_70 : decode cX4_readPass 70 = .ok (.iconst 0, 1) := by decide +kernel
theorem dX4_readPass_71 : decode cX4_readPass 71 = .ok (.ireturn, 1) := by decide +kernel
theorem dX4_readPass_72 : decode cX4_readPass 72 = .ok (.iinc 1 1, 3) := by decide +kernel
theorem dX4_readPass_75 : decode cX4_readPass 75 = .ok (.goto (-38), 3) := by decide +kernel
theorem dX4_readPass_78 : decode cX4_readPass 78 = .ok (.iconst 0, 1) := by decide +kernel
theorem dX4_readPass_79 : decode cX4_readPass 79 = .ok (.ireturn, 1) := by decide +kernel
theorem dX4_readToll_0 : decode cX4_readToll 0 = .ok (.aload_n 0, 1) := by decide +kernel
theorem dX4_readToll_1 : decode cX4_readToll 1 = .ok (.invokevirtual 40, 3) := by decide +kernel
theorem dX4_readToll_4 : decode cX4_readToll 4 = .ok (.aload_n 0, 1) := by decide +kernel
theorem dX4_readToll_5 : decode cX4_readToll 5 = .ok (.ldc 52, 2) := by decide +kernel
theorem dX4_readToll_7 : decode cX4_readToll 7 = .ok (.invokevirtual 54, 3) := by decide +kernel
theorem dX4_readToll_10 : decode cX4_readToll 10 = .ok (.ifCond .ne 9, 3) := by decide +kernel
theorem dX4_readToll_13 : decode cX4_readToll 13 = .ok (.aload_n 0, 1) := by decide +kernel
theorem dX4_readToll_14 : decode cX4_readToll 14 = .ok (.iconst 1, 1) := by decide +kernel
theorem dX4_readToll_15 : decode cX4_readToll 15 = .ok (.invokevirtual 58, 3) := by decide +kernel
theorem dX4_readToll_18 : decode cX4_readToll 18 = .ok (.ireturn, 1) := by decide +kernel
theorem dX4_readToll_19 : decode cX4_readToll 19 = .ok (.iconst 0, 1) := by decide +kernel
theorem dX4_readToll_20 : decode cX4_readToll 20 = .ok (.istore_n 1, 1) := by decide +kernel
theorem dX4_readToll_21 : decode cX4_readToll 21 = .ok (.iload_n 1, 1) := by decide +kernel
theorem dX4_readToll_22 : decode cX4_readToll 22 = .ok (.bipush 6, 2) := by decide +kernel
theorem dX4_readToll_24 : decode cX4_readToll 24 = .ok (.if_icmp .ge 33, 3) := by decide +kernel
theorem dX4_readToll_27 : decode cX4_readToll 27 = .ok (.aload_n 0, 1) := by decide +kernel
theorem dX4_readToll_28 : decode cX4_readToll 28 = .ok (.bipush 99, 2) := by decide +kernel
theorem dX4_readToll_30 : decode cX4_readToll 30 = .ok (.invokevirtual 62, 3) := by decide +kernel
theorem dX4_readToll_33 : decode cX4_readToll 33 = .ok (.ifCond .ne 5, 3) := by decide +kernel
theorem dX4_readToll_36 : decode cX4_readToll 36 = .ok (.iconst 0, 1) := by decide +kernel
theorem dX4_readToll_37 : decode cX4_readToll 37 = .ok (.ireturn, 1) := by decide +kernel
theorem dX4_readToll_38 : decode cX4_readToll 38 = .ok (.aload_n 0, 1) := by decide +kernel
theorem dX4_readToll_39 : decode cX4_readToll 39 = .ok (.getfield 18, 3) := by decide +kernel
theorem dX4_readToll_42 : decode cX4_readToll 42 = .ok (.getfield 65, 3) := by decide +kernel
theorem dX4_readToll_45 : decode cX4_readToll 45 = .ok (.iload_n 1, 1) := by decide +kernel
theorem dX4_readToll_46 : decode cX4_readToll 46 = .ok (.aload_n 0, 1) := by decide +kernel
theorem dX4_readToll_47 : decode cX4_readToll 47 = .ok (.getfield 68, 3) := by decide +kernel
theorem dX4_readToll_50 : decode cX4_readToll 50 = .ok (.iastore, 1) := by decide +kernel
theorem dX4_readToll_51 : decode cX4_readToll 51 = .ok (.iinc 1 1, 3) := by decide +kernel
theorem dX4_readToll_54 : decode cX4_readToll 54 = .ok (.goto (-33), 3) := by decide +kernel
theorem dX4_readToll_57 : decode cX4_readToll 57 = .ok (.aload_n 0, 1) := by decide +kernel
theorem dX4_readToll_58 : decode cX4_readToll 58 = .ok (.invokevirtual 71, 3) := by decide +kernel
theorem dX4_readToll_61 : decode cX4_readToll 61 = .ok (.ireturn, 1) := by decide +kernel
theorem dX4_readCart_0 : decode cX4_readCart 0 = .ok (.aload_n 0, 1) := by decide +kernel
theorem dX4_readCart_1 : decode cX4_readCart 1 = .ok (.ldc 74, 2) := by decide +kernel
theorem dX4_readCart_3 : decode cX4_readCart 3 = .ok (.invokevirtual 54, 3) := by decide +kernel
theorem dX4_readCart_6 : decode cX4_readCart 6 = .ok (.ifCond .ne 9, 3) := by decide +kernel
theorem dX4_readCart_9 : decode cX4_readCart 9 = .ok (.aload_n 0, 1) := by decide +kernel
theorem dX4_readCart_10 : decode cX4_readCart 10 = .ok (.iconst 1, 1) := by decide +kernel
theorem dX4_readCart_11 : decode cX4_readCart 11 = .ok (.invokevirtual 58, 3) := by decide +kernel
theorem dX4_readCart_14 : decode cX4_readCart 14 = .ok (.ireturn, 1) := by decide +kernel
theorem dX4_readCart_15 : decode cX4_readCart 15 = .ok (.aload_n 0, 1) := by decide +kernel
theorem dX4_readCart_16 : decode cX4_readCart 16 = .ok (.getfield 18, 3) := by decide +kernel
theorem dX4_readCart_19 : decode cX4_readCart 19 = .ok (.getfield 22, 3) := by decide +kernel
theorem dX4_readCart_22 : decode cX4_readCart 22 = .ok (.istore_n 1, 1) := by decide +kernel
theorem dX4_readCart_23 : decode cX4_readCart 23 = .ok (.iload_n 1, 1) := by decide +kernel
theorem dX4_readCart_24 : decode cX4_readCart 24 = .ok (.bipush 6, 2) := by decide +kernel
theorem dX4_readCart_26 : decode cX4_readCart 26 = .ok (.if_icmp .lt 9, 3) := by decide +kernel
theorem dX4_readCart_29 : decode cX4_readCart 29 = .ok (.aload_n 0, 1) := by decide +kernel
theorem dX4_readCart_30 : decode cX4_readCart 30 = .ok (.iconst 3, 1) := by decide +kernel
theorem dX4_readCart_31 : decode cX4_readCart 31 = .ok (.invokevirtual 58, 3) := by decide +kernel
theorem dX4_readCart_34 : decode cX4_readCart 34 = .ok (.ireturn, 1) := by decide +kernel
theorem dX4_readCart_35 : decode cX4_readCart 35 = .ok (.aload_n 0, 1) := by decide +kernel
theorem dX4_readCart_36 : decode cX4_readCart 36 = .ok (.invokevirtual 40, 3) := by decide +kernel
theorem dX4_readCart_39 : decode cX4_readCart 39 = .ok (.aload_n 0, 1) := by decide +kernel
theorem dX4_readCart_40 : decode cX4_readCart 40 = .ok (.getfield 18, 3) := by decide +kernel
theorem dX4_readCart_43 : decode cX4_readCart 43 = .ok (.getfield 76, 3) := by decide +kernel
theorem dX4_readCart_46 : decode cX4_readCart 46 = .ok (.iload_n 1, 1) := by decide +kernel
theorem dX4_readCart_47 : decode cX4_readCart 47 = .ok (.aload_n 0, 1) := by decide +kernel
theorem dX4_readCart_48 : decode cX4_readCart 48 = .ok (.invokevirtual 79, 3) := by decide +kernel
theorem dX4_readCart_51 : decode cX4_readCart 51 = .ok (.iastore, 1) := by decide +kernel
theorem dX4_readCart_52 : decode cX4_readCart 52 = .ok (.aload_n 0, 1) := by decide +kernel
theorem dX4_readCart_53 : decode cX4_readCart 53 = .ok (.getfield 18, 3) := by decide +kernel
theorem dX4_readCart_56 : decode cX4_readCart 56 = .ok (.getfield 76, 3) := by decide +kernel
theorem dX4_readCart_59 : decode cX4_readCart 59 = .ok (.iload_n 1, 1) := by decide +kernel
theorem dX4_readCart_60 : decode cX4_readCart 60 = .ok (.iaload, 1) := by decide +kernel
theorem dX4_readCart_61 : decode cX4_readCart 61 = .ok (.ifCond .ne 9, 3) := by decide +kernel
theorem dX4_readCart_64 : decode cX4_readCart 64 = .ok (.aload_n 0, 1) := by decide +kernel
theorem dX4_readCart_65 : decode cX4_readCart 65 = .ok (.iconst 1, 1) := by decide +kernel
theorem dX4_readCart_66 : decode cX4_readCart 66 = .ok (.invokevirtual 58, 3) := by decide +kernel
theorem dX4_readCart_69 : decode cX4_readCart 69 = .ok (.ireturn, 1) := by decide +kernel
theorem dX4_readCart_70 : decode cX4_readCart 70 = .ok (.aload_n 0, 1) := by decide +kernel
theorem dX4_readCart_71 : decode cX4_readCart 71 = .ok (.bipush 11, 2) := by decide +kernel
theorem dX4_readCart_73 : decode cX4_readCart 73 = .ok (.invokevirtual 62, 3) := by decide +kernel
theorem dX4_readCart_76 : decode cX4_readCart 76 = .ok (.ifCond .ne 5, 3) := by decide +kernel
theorem dX4_readCart_79 : decode cX4_readCart 79 = .ok (.iconst 0, 1) := by decide +kernel
theorem dX4_readCart_80 : decode cX4_readCart 80 = .ok (.ireturn, 1) := by decide +kernel
theorem dX4_readCart_81 : decode cX4_readCart 81 = .ok (.aload_n 0, 1) := by decide +kernel
theorem dX4_readCart_82 : decode cX4_readCart 82 = .ok (.getfield 18, 3) := by decide +kernel
theorem dX4_readCart_85 : decode cX4_readCart 85 = .ok (.getfield 83, 3) := by decide +kernel
theorem dX4_readCart_88 : decode cX4_readCart 88 = .ok (.iload_n 1, 1) := by decide +kernel
theorem dX4_readCart_89 : decode cX4_readCart 89 = .ok (.aload_n 0, 1) := by decide +kernel
theorem dX4_readCart_90 : decode cX4_readCart 90 = .ok (.getfield 68, 3) := by decide +kernel
theorem dX4_readCart_93 : decode cX4_readCart 93 = .ok (.iastore, 1) := by decide +kernel
theorem dX4_readCart_94 : decode cX4_readCart 94 = .ok (.aload_n 0, 1) := by decide +kernel
theorem dX4_readCart_95 : decode cX4_readCart 95 = .ok (.bipush 20, 2) := by decide +kernel
theorem dX4_readCart_97 : decode cX4_readCart 97 = .ok (.invokevirtual 62, 3) := by decide +kernel
theorem dX4_readCart_100 : decode cX4_readCart 100 = .ok (.ifCond .ne 5, 3) := by decide +kernel
theorem dX4_readCart_103 : decode cX4_readCart 103 = .ok (.iconst 0, 1) := by decide +kernel
theorem dX4_readCart_104 : decode cX4_readCart 104 = .ok (.ireturn, 1) := by decide +kernel
theorem dX4_readCart_105 : decode cX4_readCart 105 = .ok (.aload_n 0, 1) := by decide +kernel
theorem dX4_readCart_106 : decode cX4_readCart 106 = .ok (.getfield 18, 3) := by decide +kernel
theorem dX4_readCart_109 : decode cX4_readCart 109 = .ok (.getfield 86, 3) := by decide +kernel
theorem dX4_readCart_112 : decode cX4_readCart 112 = .ok (.iload_n 1, 1) := by decide +kernel
theorem dX4_readCart_113 : decode cX4_readCart 113 = .ok (.aload_n 0, 1) := by decide +kernel
theorem dX4_readCart_114 : decode cX4_readCart 114 = .ok (.getfield 68, 3) := by decide +kernel
theorem dX4_readCart_117 : decode cX4_readCart 117 = .ok (.iastore, 1) := by decide +kernel
theorem dX4_readCart_118 : decode cX4_readCart 118 = .ok (.aload_n 0, 1) := by decide +kernel
theorem dX4_readCart_119 : decode cX4_readCart 119 = .ok (.bipush 11, 2) := by decide +kernel
theorem dX4_readCart_121 : decode cX4_readCart 121 = .ok (.invokevirtual 62, 3) := by decide +kernel
theorem dX4_readCart_124 : decode cX4_readCart 124 = .ok (.ifCond .ne 5, 3) := by decide +kernel
theorem dX4_readCart_127 : decode cX4_readCart 127 = .ok (.iconst 0, 1) := by decide +kernel
theorem dX4_readCart_128 : decode cX4_readCart 128 = .ok (.ireturn, 1) := by decide +kernel
theorem dX4_readCart_129 : decode cX4_readCart 129 = .ok (.aload_n 0, 1) := by decide +kernel
theorem dX4_readCart_130 : decode cX4_readCart 130 = .ok (.getfield 18, 3) := by decide +kernel
theorem dX4_readCart_133 : decode cX4_readCart 133 = .ok (.getfield 89, 3) := by decide +kernel
theorem dX4_readCart_136 : decode cX4_readCart 136 = .ok (.iload_n 1, 1) := by decide +kernel
theorem dX4_readCart_137 : decode cX4_readCart 137 = .ok (.aload_n 0, 1) := by decide +kernel
theorem dX4_readCart_138 : decode cX4_readCart 138 = .ok (.getfield 68, 3) := by decide +kernel
theorem dX4_readCart_141 : decode cX4_readCart 141 = .ok (.iastore, 1) := by decide +kernel
theorem dX4_readCart_142 : decode cX4_readCart 142 = .ok (.aload_n 0, 1) := by decide +kernel
theorem dX4_readCart_143 : decode cX4_readCart 143 = .ok (.getfield 18, 3) := by decide +kernel
theorem dX4_readCart_146 : decode cX4_readCart 146 = .ok (.dup, 1) := by decide +kernel
theorem dX4_readCart_147 : decode cX4_readCart 147 = .ok (.getfield 22, 3) := by decide +kernel
theorem dX4_readCart_150 : decode cX4_readCart 150 = .ok (.iconst 1, 1) := by decide +kernel
theorem dX4_readCart_151 : decode cX4_readCart 151 = .ok (.iadd, 1) := by decide +kernel
theorem dX4_readCart_152 : decode cX4_readCart 152 = .ok (.putfield 22, 3) := by decide +kernel
theorem dX4_readCart_155 : decode cX4_readCart 155 = .ok (.aload_n 0, 1) := by decide +kernel
theorem dX4_readCart_156 : decode cX4_readCart 156 = .ok (.invokevirtual 71, 3) := by decide +kernel
theorem dX4_readCart_159 : decode cX4_readCart 159 = .ok (.ireturn, 1) := by decide +kernel
theorem dX4_kindNamed_0 : decode cX4_kindNamed 0 = .ok (.aload_n 0, 1) := by decide +kernel
theorem dX4_kindNamed_1 : decode cX4_kindNamed 1 = .ok (.ldc 92, 2) := by decide +kernel
theorem dX4_kindNamed_3 : decode cX4_kindNamed 3 = .ok (.invokevirtual 54, 3) := by decide +kernel
theorem dX4_kindNamed_6 : decode cX4_kindNamed 6 = .ok (.ifCond .eq 5, 3) := by decide +kernel
theorem dX4_kindNamed_9 : decode cX4_kindNamed 9 = .ok (.iconst 1, 1) := by decide +kernel
theorem dX4_kindNamed_10 : decode cX4_kindNamed 10 = .ok (.ireturn, 1) := by decide +kernel
theorem dX4_kindNamed_11 : decode cX4_kindNamed 11 = .ok (.aload_n 0, 1) := by decide +kernel
theorem dX4_kindNamed_12 : decode cX4_kindNamed 12 = .ok (.ldc 94, 2) := by decide +kernel
theorem dX4_kindNamed_14 : decode cX4_kindNamed 14 = .ok (.invokevirtual 54, 3) := by decide +kernel
theorem dX4_kindNamed_17 : decode cX4_kindNamed 17 = .ok (.ifCond .eq 5, 3) := by decide +kernel
theorem dX4_kindNamed_20 : decode cX4_kindNamed 20 = .ok (.iconst 2, 1) := by decide +kernel
theorem dX4_kindNamed_21 : decode cX4_kindNamed 21 = .ok (.ireturn, 1) := by decide +kernel
theorem dX4_kindNamed_22 : decode cX4_kindNamed 22 = .ok (.aload_n 0, 1) := by decide +kernel
theorem dX4_kindNamed_23 : decode cX4_kindNamed 23 = .ok (.ldc 96, 2) := by decide +kernel
theorem dX4_kindNamed_25 : decode cX4_kindNamed 25 = .ok (.invokevirtual 54, 3) := by decide +kernel
theorem dX4_kindNamed_28 : decode cX4_kindNamed 28 = .ok (.ifCond .eq 5, 3) := by decide +kernel
theorem dX4_kindNamed_31 : decode cX4_kindNamed 31 = .ok (.iconst 3, 1) := by decide +kernel
theorem dX4_kindNamed_32 : decode cX4_kindNamed 32 = .ok (.ireturn, 1) := by decide +kernel
theorem dX4_kindNamed_33 : decode cX4_kindNamed 33 = .ok (.aload_n 0, 1) := by decide +kernel
theorem dX4_kindNamed_34 : decode cX4_kindNamed 34 = .ok (.ldc 98, 2) := by decide +kernel
theorem dX4_kindNamed_36 : decode cX4_kindNamed 36 = .ok (.invokevirtual 54, 3) := by decide +kernel
theorem dX4_kindNamed_39 : decode cX4_kindNamed 39 = .ok (.ifCond .eq 5, 3) := by decide +kernel
theorem dX4_kindNamed_42 : decode cX4_kindNamed 42 = .ok (.iconst 4, 1) := by decide +kernel
theorem dX4_kindNamed_43 : decode cX4_kindNamed 43 = .ok (.ireturn, 1) := by decide +kernel
theorem dX4_kindNamed_44 : decode cX4_kindNamed 44 = .ok (.aload_n 0, 1) := by decide +kernel
theorem dX4_kindNamed_45 : decode cX4_kindNamed 45 = .ok (.ldc 100, 2) := by decide +kernel
theorem dX4_kindNamed_47 : decode cX4_kindNamed 47 = .ok (.invokevirtual 54, 3) := by decide +kernel
theorem dX4_kindNamed_50 : decode cX4_kindNamed 50 = .ok (.ifCond .eq 7, 3) := by decide +kernel
theorem dX4_kindNamed_53 : decode cX4_kindNamed 53 = .ok (.iconst 5, 1) := by decide +kernel
theorem dX4_kindNamed_54 : decode cX4_kindNamed 54 = .ok (.goto 4, 3) := by decide +kernel
theorem dX4_kindNamed_57 : decode cX4_kindNamed 57 = .ok (.iconst 0, 1) := by decide +kernel
theorem dX4_kindNamed_58 : decode cX4_kindNamed 58 = .ok (.ireturn, 1) := by decide +kernel
theorem dX4_readNumber_0 : decode cX4_readNumber 0 = .ok (.aload_n 0, 1) := by decide +kernel
theorem dX4_readNumber_1 : decode cX4_readNumber 1 = .ok (.invokevirtual 40, 3) := by decide +kernel
theorem dX4_readNumber_4 : decode cX4_readNumber 4 = .ok (.aload_n 0, 1) := by decide +kernel
theorem dX4_readNumber_5 : decode cX4_readNumber 5 = .ok (.getfield 43, 3) := by decide +kernel
theorem dX4_readNumber_8 : decode cX4_readNumber 8 = .ok (.iconst 2, 1) := by decide +kernel
theorem dX4_readNumber_9 : decode cX4_readNumber 9 = .ok (.if_icmp .eq 9, 3) := by decide +kernel
theorem dX4_readNumber_12 : decode cX4_readNumber 12 = .ok (.aload_n 0, 1) := by decide +kernel
theorem dX4_readNumber_13 : decode cX4_readNumber 13 = .ok (.iconst 1, 1) := by decide +kernel
theorem dX4_readNumber_14 : decode cX4_readNumber 14 = .ok (.invokevirtual 58, 3) := by decide +kernel
theorem dX4_readNumber_17 : decode cX4_readNumber 17 = .ok (.ireturn, 1) := by decide +kernel
theorem dX4_readNumber_18 : decode cX4_readNumber 18 = .ok (.aload_n 0, 1) := by decide +kernel
theorem dX4_readNumber_19 : decode cX4_readNumber 19 = .ok (.getfield 68, 3) := by decide +kernel
theorem dX4_readNumber_22 : decode cX4_readNumber 22 = .ok (.iload_n 1, 1) := by decide +kernel
theorem dX4_readNumber_23 : decode cX4_readNumber 23 = .ok (.if_icmp .le 11, 3) := by decide +kernel
theorem dX4_readNumber_26 : decode cX4_readNumber 26 = .ok (.aload_n 0, 1) := by decide +kernel
theorem dX4_readNumber_27 : decode cX4_readNumber 27 = .ok (.iconst 2, 1) := by decide +kernel
theorem dX4_readNumber_28 : decode cX4_readNumber 28 = .ok (.invokevirtual 58, 3) := by decide +kernel
theorem dX4_readNumber_31 : decode cX4_readNumber 31 = .ok (.ifCond .eq 7, 3) := by decide +kernel
theorem dX4_readNumber_34 : decode cX4_readNumber 34 = .ok (.iconst 1, 1) := by decide +kernel
theorem dX4_readNumber_35 : decode cX4_readNumber 35 = .ok (.goto 4, 3) := by decide +kernel
theorem dX4_readNumber_38 : decode cX4_readNumber 38 = .ok (.iconst 0, 1) := by decide +kernel
theorem dX4_readNumber_39 : decode cX4_readNumber 39 = .ok (.ireturn, 1) := by decide +kernel
theorem dX4_readSign_0 : decode cX4_readSign 0 = .ok (.aload_n 0, 1) := by decide +kernel
theorem dX4_readSign_1 : decode cX4_readSign 1 = .ok (.invokevirtual 40, 3) := by decide +kernel
theorem dX4_readSign_4 : decode cX4_readSign 4 = .ok (.aload_n 0, 1) := by decide +kernel
theorem dX4_readSign_5 : decode cX4_readSign 5 = .ok (.getfield 43, 3) := by decide +kernel
theorem dX4_readSign_8 : decode cX4_readSign 8 = .ok (.iconst 3, 1) := by decide +kernel
theorem dX4_readSign_9 : decode cX4_readSign 9 = .ok (.if_icmp .eq 11, 3) := by decide +kernel
theorem dX4_readSign_12 : decode cX4_readSign 12 = .ok (.aload_n 0, 1) := by decide +kernel
theorem dX4_readSign_13 : decode cX4_readSign 13 = .ok (.iconst 1, 1) := by decide +kernel
theorem dX4_readSign_14 : decode cX4_readSign 14 = .ok (.invokevirtual 58, 3) := by decide +kernel
theorem dX4_readSign_17 : decode cX4_readSign 17 = .ok (.ifCond .eq 7, 3) := by decide +kernel
theorem dX4_readSign_20 : decode cX4_readSign 20 = .ok (.iconst 1, 1) := by decide +kernel
theorem dX4_readSign_21 : decode cX4_readSign 21 = .ok (.goto 4, 3) := by decide +kernel
theorem dX4_readSign_24 : decode cX4_readSign 24 = .ok (.iconst 0, 1) := by decide +kernel
theorem dX4_readSign_25 : decode cX4_readSign 25 = .ok (.ireturn, 1) := by decide +kernel
theorem dX4_fail_0 : decode cX4_fail 0 = .ok (.aload_n 0, 1) := by decide +kernel
theorem dX4_fail_1 : decode cX4_fail 1 = .ok (.iload_n 1, 1) := by decide +kernel
theorem dX4_fail_2 : decode cX4_fail 2 = .ok (.putfield 33, 3) := by decide +kernel
theorem dX4_fail_5 : decode cX4_fail 5 = .ok (.iconst 0, 1) := by decide +kernel
theorem dX4_fail_6 : decode cX4_fail 6 = .ok (.ireturn, 1) := by decide +kernel
theorem dX4_step_0 : decode cX4_step 0 = .ok (.aload_n 0, 1) := by decide +kernel
theorem dX4_step_1 : decode cX4_step 1 = .ok (.aload_n 0, 1) := by decide +kernel
theorem dX4_step_2 : decode cX4_step 2 = .ok (.getfield 30, 3) := by decide +kernel
theorem dX4_step_5 : decode cX4_step 5 = .ok (.putfield 102, 3) := by decide +kernel
theorem dX4_step_8 : decode cX4_step 8 = .ok (.aload_n 0, 1) := by decide +kernel
theorem dX4_step_9 : decode cX4_step 9 = .ok (.getfield 102, 3) := by decide +kernel
theorem dX4_step_12 : decode cX4_step 12 = .ok (.aload_n 0, 1) := by decide +kernel
theorem dX4_step_13 : decode cX4_step 13 = .ok (.getfield 105, 3) := by decide +kernel
theorem dX4_step_16 : decode cX4_step 16 = .ok (.if_icmp .ge 44, 3) := by decide +kernel
theorem dX4_step_19 : decode cX4_step 19 = .ok (.aload_n 0, 1) := by decide +kernel
theorem dX4_step_20 : decode cX4_step 20 = .ok (.getfield 9, 3) := by decide +kernel
theorem dX4_step_23 : decode cX4_step 23 = .ok (.aload_n 0, 1) := by decide +kernel
theorem dX4_step_24 : decode cX4_step 24 = .ok (.getfield 102, 3) := by decide +kernel
theorem dX4_step_27 : decode cX4_step 27 = .ok (.baload, 1) := by decide +kernel
theorem dX4_step_28 : decode cX4_step 28 = .ok (.bipush 32, 2) := by decide +kernel
theorem dX4_step_30 : decode cX4_step 30 = .ok (.if_icmp .eq 17, 3) := by decide +kernel
theorem dX4_step_33 : decode cX4_step 33 = .ok (.aload_n 0, 1) := by decide +kernel
theorem dX4_step_34 : decode cX4_step 34 = .ok (.getfield 9, 3) := by decide +kernel
theorem dX4_step_37 : decode cX4_step 37 = .ok (.aload_n 0, 1) := by decide +kernel
theorem dX4_step_38 : decode cX4_step 38 = .ok (.getfield 102, 3) := by decide +kernel
theorem dX4_step_41 : decode cX4_step 41 = .ok (.baload, 1) := by decide +kernel
theorem dX4_step_42 : decode cX4_step 42 = .ok (.bipush 10, 2) := by decide +kernel
theorem dX4_step_44 : decode cX4_step 44 = .ok (.if_icmp .ne 16, 3) := by decide +kernel
theorem dX4_step_47 : decode cX4_step 47 = .ok (.aload_n 0, 1) := by decide +kernel
theorem dX4_step_48 : decode cX4_step 48 = .ok (.dup, 1) := by decide +kernel
theorem dX4_step_49 : decode cX4_step 49 = .ok (.getfield 102, 3) := by decide +kernel
theorem dX4_step_52 : decode cX4_step 52 = .ok (.iconst 1, 1) := by decide +kernel
theorem dX4_step_53 : decode cX4_step 53 = .ok (.iadd, 1) := by decide +kernel
theorem dX4_step_54 : decode cX4_step 54 = .ok (.putfield 102, 3) := by decide +kernel
theorem dX4_step_57 : decode cX4_step 57 = .ok (.goto (-49), 3) := by decide +kernel
theorem dX4_step_60 : decode cX4_step 60 = .ok (.aload_n 0, 1) := by decide +kernel
theorem dX4_step_61 : decode cX4_step 61 = .ok (.aload_n 0, 1) := by decide +kernel
theorem dX4_step_62 : decode cX4_step 62 = .ok (.getfield 102, 3) := by decide +kernel
theorem dX4_step_65 : decode cX4_step 65 = .ok (.putfield 30, 3) := by decide +kernel
theorem dX4_step_68 : decode cX4_step 68 = .ok (.aload_n 0, 1) := by decide +kernel
theorem dX4_step_69 : decode cX4_step 69 = .ok (.getfield 102, 3) := by decide +kernel
theorem dX4_step_72 : decode cX4_step 72 = .ok (.aload_n 0, 1) := by decide +kernel
theorem dX4_step_73 : decode cX4_step 73 = .ok (.getfield 105, 3) := by decide +kernel
theorem dX4_step_76 : decode cX4_step 76 = .ok (.if_icmp .lt 11, 3) := by decide +kernel
theorem dX4_step_79 : decode cX4_step 79 = .ok (.aload_n 0, 1) := by decide +kernel
theorem dX4_step_80 : decode cX4_step 80 = .ok (.iconst 0, 1) := by decide +kernel
theorem dX4_step_81 : decode cX4_step 81 = .ok (.putfield 43, 3) := by decide +kernel
theorem dX4_step_84 : decode cX4_step 84 = .ok (.goto 72, 3) := by decide +kernel
theorem dX4_step_87 : decode cX4_step 87 = .ok (.aload_n 0, 1) := by decide +kernel
theorem dX4_step_88 : decode cX4_step 88 = .ok (.aload_n 0, 1) := by decide +kernel
theorem dX4_step_89 : decode cX4_step 89 = .ok (.getfield 102, 3) := by decide +kernel
theorem dX4_step_92 : decode cX4_step 92 = .ok (.invokevirtual 108, 3) := by decide +kernel
theorem dX4_step_95 : decode cX4_step 95 = .ok (.ifCond .eq 10, 3) := by decide +kernel
theorem dX4_step_98 : decode cX4_step 98 = .ok (.aload_n 0, 1) := by decide +kernel
theorem dX4_step_99 : decode cX4_step 99 = .ok (.invokevirtual 111, 3) := by decide +kernel
theorem dX4_step_102 : decode cX4_step 102 = .ok (.goto 54, 3) := by decide +kernel
theorem dX4_step_105 : decode cX4_step 105 = .ok (.aload_n 0, 1) := by decide +kernel
theorem dX4_step_106 : decode cX4_step 106 = .ok (.aload_n 0, 1) := by decide +kernel
theorem dX4_step_107 : decode cX4_step 107 = .ok (.getfield 102, 3) := by decide +kernel
theorem dX4_step_110 : decode cX4_step 110 = .ok (.invokevirtual 114, 3) := by decide +kernel
theorem dX4_step_113 : decode cX4_step 113 = .ok (.ifCond .eq 10, 3) := by decide +kernel
theorem dX4_step_116 : decode cX4_step 116 = .ok (.aload_n 0, 1) := by decide +kernel
theorem dX4_step_117 : decode cX4_step 117 = .ok (.invokevirtual 117, 3) := by decide +kernel
theorem dX4_step_120 : decode cX4_step 120 = .ok (.goto 36, 3) := by decide +kernel
theorem dX4_step_123 : decode cX4_step 123 = .ok (.aload_n 0, 1) := by decide +kernel
theorem dX4_step_124 : decode cX4_step 124 = .ok (.dup, 1) := by decide +kernel
theorem dX4_step_125 : decode cX4_step 125 = .ok (.getfield 30, 3) := by decide +kernel
theorem dX4_step_128 : decode cX4_step 128 = .ok (.iconst 1, 1) := by decide +kernel
theorem dX4_step_129 : decode cX4_step 129 = .ok (.iadd, 1) := by decide +kernel
theorem dX4_step_130 : decode cX4_step 130 = .ok (.putfield 30, 3) := by decide +kernel
theorem dX4_step_133 : decode cX4_step 133 = .ok (.aload_n 0, 1) := by decide +kernel
theorem dX4_step_134 : decode cX4_step 134 = .ok (.aload_n 0, 1) := by decide +kernel
theorem dX4_step_135 : decode cX4_step 135 = .ok (.getfield 9, 3) := by decide +kernel
theorem dX4_step_138 : decode cX4_step 138 = .ok (.aload_n 0, 1) := by decide +kernel
theorem dX4_step_139 : decode cX4_step 139 = .ok (.getfield 102, 3) := by decide +kernel
theorem dX4_step_142 : decode cX4_step 142 = .ok (.baload, 1) := by decide +kernel
theorem dX4_step_143 : decode cX4_step 143 = .ok (.bipush 59, 2) := by decide +kernel
theorem dX4_step_145 : decode cX4_step 145 = .ok (.if_icmp .ne 7, 3) := by decide +kernel
theorem dX4_step_148 : decode cX4_step 148 = .ok (.iconst 3, 1) := by decide +kernel
theorem dX4_step_149 : decode cX4_step 149 = .ok (.goto 4, 3) := by decide +kernel
theorem dX4_step_152 : decode cX4_step 152 = .ok (.iconst 4, 1) := by decide +kernel
theorem dX4_step_153 : decode cX4_step 153 = .ok (.putfield 43, 3) := by decide +kernel
theorem dX4_step_156 : decode cX4_step 156 = .ok (.return_, 1) := by decide +kernel
theorem dX4_stepName_0 : decode cX4_stepName 0 = .ok (.aload_n 0, 1) := by decide +kernel
theorem dX4_stepName_1 : decode cX4_stepName 1 = .ok (.getfield 30, 3) := by decide +kernel
theorem dX4_stepName_4 : decode cX4_stepName 4 = .ok (.aload_n 0, 1) := by decide +kernel
theorem dX4_stepName_5 : decode cX4_stepName 5 = .ok (.getfield 105, 3) := by decide +kernel
theorem dX4_stepName_8 : decode cX4_stepName 8 = .ok (.if_icmp .ge 27, 3) := by decide +kernel
theorem dX4_stepName_11 : decode cX4_stepName 11 = .ok (.aload_n 0, 1) := by decide +kernel
theorem dX4_stepName_12 : decode cX4_stepName 12 = .ok (.aload_n 0, 1) := by decide +kernel
theorem dX4_stepName_13 : decode cX4_stepName 13 = .ok (.getfield 30, 3) := by decide +kernel
theorem dX4_stepName_16 : decode cX4_stepName 16 = .ok (.invokevirtual 108, 3) := by decide +kernel
theorem dX4_stepName_19 : decode cX4_stepName 19 = .ok (.ifCond .eq 16, 3) := by decide +kernel
theorem dX4_stepName_22 : decode cX4_stepName 22 = .ok (.aload_n 0, 1) := by decide +kernel
theorem dX4_stepName_23 : decode cX4_stepName 23 = .ok (.dup, 1) := by decide +kernel
theorem dX4_stepName_24 : decode cX4_stepName 24 = .ok (.getfield 30, 3) := by decide +kernel
theorem dX4_stepName_27 : decode cX4_stepName 27 = .ok (.iconst 1, 1) := by decide +kernel
theorem dX4_stepName_28 : decode cX4_stepName 28 = .ok (.iadd, 1) := by decide +kernel
theorem dX4_stepName_29 : decode cX4_stepName 29 = .ok (.putfield 30, 3) := by decide +kernel
theorem dX4_stepName_32 : decode cX4_stepName 32 = .ok (.goto (-32), 3) := by decide +kernel
theorem dX4_stepName_35 : decode cX4_stepName 35 = .ok (.aload_n 0, 1) := by decide +kernel
theorem dX4_stepName_36 : decode cX4_stepName 36 = .ok (.iconst 1, 1) := by decide +kernel
theorem dX4_stepName_37 : decode cX4_stepName 37 = .ok (.putfield 43, 3) := by decide +kernel
theorem dX4_stepName_40 : decode cX4_stepName 40 = .ok (.return_, 1) := by decide +kernel
theorem dX4_stepNumber_0 : decode cX4_stepNumber 0 = .ok (.aload_n 0, 1) := by decide +kernel
theorem dX4_stepNumber_1 : decode cX4_stepNumber 1 = .ok (.iconst 0, 1) := by decide +kernel
theorem dX4_stepNumber_2 : decode cX4_stepNumber 2 = .ok (.putfield 68, 3) := by decide +kernel
theorem dX4_stepNumber_5 : decode cX4_stepNumber 5 = .ok (.aload_n 0, 1) := by decide +kernel
theorem dX4_stepNumber_6 : decode cX4_stepNumber 6 = .ok (.getfield 30, 3) := by decide +kernel
theorem dX4_stepNumber_9 : decode cX4_stepNumber 9 = .ok (.aload_n 0, 1) := by decide +kernel
theorem dX4_stepNumber_10 : decode cX4_stepNumber 10 = .ok (.getfield 105, 3) := by decide +kernel
theorem dX4_stepNumber_13 : decode cX4_stepNumber 13 = .ok (.if_icmp .ge 64, 3) := by decide +kernel
theorem dX4_stepNumber_16 : decode cX4_stepNumber 16 = .ok (.aload_n 0, 1) := by decide +kernel
theorem dX4_stepNumber_17 : decode cX4_stepNumber 17 = .ok (.aload_n 0, 1) := by decide +kernel
theorem dX4_stepNumber_18 : decode cX4_stepNumber 18 = .ok (.getfield 30, 3) := by decide +kernel
theorem dX4_stepNumber_21 : decode cX4_stepNumber 21 = .ok (.invokevirtual 114, 3) := by decide +kernel
theorem dX4_stepNumber_24 : decode cX4_stepNumber 24 = .ok (.ifCond .eq 53, 3) := by decide +kernel
theorem dX4_stepNumber_27 : decode cX4_stepNumber 27 = .ok (.aload_n 0, 1) := by decide +kernel
theorem dX4_stepNumber_28 : decode cX4_stepNumber 28 = .ok (.getfield 30, 3) := by decide +kernel
theorem dX4_stepNumber_31 : decode cX4_stepNumber 31 = .ok (.aload_n 0, 1) := by decide +kernel
theorem dX4_stepNumber_32 : decode cX4_stepNumber 32 = .ok (.getfield 102, 3) := by decide +kernel
theorem dX4_stepNumber_35 : decode cX4_stepNumber 35 = .ok (.isub, 1) := by decide +kernel
theorem dX4_stepNumber_36 : decode cX4_stepNumber 36 = .ok (.iconst 3, 1) := by decide +kernel
theorem dX4_stepNumber_37 : decode cX4_stepNumber 37 = .ok (.if_icmp .ge 27, 3) := by decide +kernel
theorem dX4_stepNumber_40 : decode cX4_stepNumber 40 = .ok (.aload_n 0, 1) := by decide +kernel
theorem dX4_stepNumber_41 : decode cX4_stepNumber 41 = .ok (.bipush 10, 2) := by decide +kernel
theorem dX4_stepNumber_43 : decode cX4_stepNumber 43 = .ok (.aload_n 0, 1) := by decide +kernel
theorem dX4_stepNumber_44 : decode cX4_stepNumber 44 = .ok (.getfield 68, 3) := by decide +kernel
theorem dX4_stepNumber_47 : decode cX4_stepNumber 47 = .ok (.imul, 1) := by decide +kernel
theorem dX4_stepNumber_48 : decode cX4_stepNumber 48 = .ok (.aload_n 0, 1) := by decide +kernel
theorem dX4_stepNumber_49 : decode cX4_stepNumber 49 = .ok (.getfield 9, 3) := by decide +kernel
theorem dX4_stepNumber_52 : decode cX4_stepNumber 52 = .ok (.aload_n 0, 1) := by decide +kernel
theorem dX4_stepNumber_53 : decode cX4_stepNumber 53 = .ok (.getfield 30, 3) := by decide +kernel
theorem dX4_stepNumber_56 : decode cX4_stepNumber 56 = .ok (.baload, 1) := by decide +kernel
theorem dX4_stepNumber_57 : decode cX4_stepNumber 57 = .ok (.iadd, 1) := by decide +kernel
theorem dX4_stepNumber_58 : decode cX4_stepNumber 58 = .ok (.bipush 48, 2) := by decide +kernel
theorem dX4_stepNumber_60 : decode cX4_stepNumber 60 = .ok (.isub, 1) := by decide +kernel
theorem dX4_stepNumber_61 : decode cX4_stepNumber 61 = .ok (.putfield 68, 3) := by decide +kernel
theorem dX4_stepNumber_64 : decode cX4_stepNumber 64 = .ok (.aload_n 0, 1) := by decide +kernel
theorem dX4_stepNumber_65 : decode cX4_stepNumber 65 = .ok (.dup, 1) := by decide +kernel
theorem dX4_stepNumber_66 : decode cX4_stepNumber 66 = .ok (.getfield 30, 3) := by decide +kernel
theorem dX4_stepNumber_69 : decode cX4_stepNumber 69 = .ok (.iconst 1, 1) := by decide +kernel
theorem dX4_stepNumber_70 : decode cX4_stepNumber 70 = .ok (.iadd, 1) := by decide +kernel
theorem dX4_stepNumber_71 : decode cX4_stepNumber 71 = .ok (.putfield 30, 3) := by decide +kernel
theorem dX4_stepNumber_74 : decode cX4_stepNumber 74 = .ok (.goto (-69), 3) := by decide +kernel
theorem dX4_stepNumber_77 : decode cX4_stepNumber 77 = .ok (.aload_n 0, 1) := by decide +kernel
theorem dX4_stepNumber_78 : decode cX4_stepNumber 78 = .ok (.aload_n 0, 1) := by decide +kernel
theorem dX4_stepNumber_79 : decode cX4_stepNumber 79 = .ok (.getfield 30, 3) := by decide +kernel
theorem dX4_stepNumber_82 : decode cX4_stepNumber 82 = .ok (.aload_n 0, 1) := by decide +kernel
theorem dX4_stepNumber_83 : decode cX4_stepNumber 83 = .ok (.getfield 102, 3) := by decide +kernel
theorem dX4_stepNumber_86 : decode cX4_stepNumber 86 = .ok (.isub, 1) := by decide +kernel
theorem dX4_stepNumber_87 : decode cX4_stepNumber 87 = .ok (.iconst 3, 1) := by decide +kernel
theorem dX4_stepNumber_88 : decode cX4_stepNumber 88 = .ok (.if_icmp .gt 7, 3) := by decide +kernel
theorem dX4_stepNumber_91 : decode cX4_stepNumber 91 = .ok (.iconst 2, 1) := by decide +kernel
theorem dX4_stepNumber_92 : decode cX4_stepNumber 92 = .ok (.goto 4, 3) := by decide +kernel
theorem dX4_stepNumber_95 : decode cX4_stepNumber 95 = .ok (.iconst 4, 1) := by decide +kernel
theorem dX4_stepNumber_96 : decode cX4_stepNumber 96 = .ok (.putfield 43, 3) := by decide +kernel
theorem dX4_stepNumber_99 : decode cX4_stepNumber 99 = .ok (.return_, 1) := by decide +kernel
theorem dX4_isLetter_0 : decode cX4_isLetter 0 = .ok (.aload_n 0, 1) := by decide +kernel
theorem dX4_isLetter_1 : decode cX4_isLetter 1 = .ok (.getfield 9, 3) := by decide +kernel
theorem dX4_isLetter_4 : decode cX4_isLetter 4 = .ok (.iload_n 1, 1) := by decide +kernel
theorem dX4_isLetter_5 : decode cX4_isLetter 5 = .ok (.baload, 1) := by decide +kernel
theorem dX4_isLetter_6 : decode cX4_isLetter 6 = .ok (.bipush 97, 2) := by decide +kernel
theorem dX4_isLetter_8 : decode cX4_isLetter 8 = .ok (.if_icmp .lt 18, 3) := by decide +kernel
theorem dX4_isLetter_11 : decode cX4_isLetter 11 = .ok (.aload_n 0, 1) := by decide +kernel
theorem dX4_isLetter_12 : decode cX4_isLetter 12 = .ok (.getfield 9, 3) := by decide +kernel
theorem dX4_isLetter_15 : decode cX4_isLetter 15 = .ok (.iload_n 1, 1) := by decide +kernel
theorem dX4_isLetter_16 : decode cX4_isLetter 16 = .ok (.baload, 1) := by decide +kernel
theorem dX4_isLetter_17 : decode cX4_isLetter 17 = .ok (.bipush 122, 2) := by decide +kernel
theorem dX4_isLetter_19 : decode cX4_isLetter 19 = .ok (.if_icmp .gt 7, 3) := by decide +kernel
theorem dX4_isLetter_22 : decode cX4_isLetter 22 = .ok (.iconst 1, 1) := by decide +kernel
theorem dX4_isLetter_23 : decode cX4_isLetter 23 = .ok (.goto 4, 3) := by decide +kernel
theorem dX4_isLetter_26 : decode cX4_isLetter 26 = .ok (.iconst 0, 1) := by decide +kernel
theorem dX4_isLetter_27 : decode cX4_isLetter 27 = .ok (.ireturn, 1) := by decide +kernel
theorem dX4_isFigure_0 : decode cX4_isFigure 0 = .ok (.aload_n 0, 1) := by decide +kernel
theorem dX4_isFigure_1 : decode cX4_isFigure 1 = .ok (.getfield 9, 3) := by decide +kernel
theorem dX4_isFigure_4 : decode cX4_isFigure 4 = .ok (.iload_n 1, 1) := by decide +kernel
theorem dX4_isFigure_5 : decode cX4_isFigure 5 = .ok (.baload, 1) := by decide +kernel
theorem dX4_isFigure_6 : decode cX4_isFigure 6 = .ok (.bipush 48, 2) := by decide +kernel
theorem dX4_isFigure_8 : decode cX4_isFigure 8 = .ok (.if_icmp .lt 18, 3) := by decide +kernel
theorem dX4_isFigure_11 : decode cX4_isFigure 11 = .ok (.aload_n 0, 1) := by decide +kernel
theorem dX4_isFigure_12 : decode cX4_isFigure 12 = .ok (.getfield 9, 3) := by decide +kernel
theorem dX4_isFigure_15 : decode cX4_isFigure 15 = .ok (.iload_n 1, 1) := by decide +kernel
theorem dX4_isFigure_16 : decode cX4_isFigure 16 = .ok (.baload, 1) := by decide +kernel
theorem dX4_isFigure_17 : decode cX4_isFigure 17 = .ok (.bipush 57, 2) := by decide +kernel
theorem dX4_isFigure_19 : decode cX4_isFigure 19 = .ok (.if_icmp .gt 7, 3) := by decide +kernel
theorem dX4_isFigure_22 : decode cX4_isFigure 22 = .ok (.iconst 1, 1) := by decide +kernel
theorem dX4_isFigure_23 : decode cX4_isFigure 23 = .ok (.goto 4, 3) := by decide +kernel
theorem dX4_isFigure_26 : decode cX4_isFigure 26 = .ok (.iconst 0, 1) := by decide +kernel
theorem dX4_isFigure_27 : decode cX4_isFigure 27 = .ok (.ireturn, 1) := by decide +kernel
theorem dX4_isWord_0 : decode cX4_isWord 0 = .ok (.aload_n 0, 1) := by decide +kernel
theorem dX4_isWord_1 : decode cX4_isWord 1 = .ok (.getfield 43, 3) := by decide +kernel
theorem dX4_isWord_4 : decode cX4_isWord 4 = .ok (.iconst 1, 1) := by decide +kernel
theorem dX4_isWord_5 : decode cX4_isWord 5 = .ok (.if_icmp .ne 19, 3) := by decide +kernel
theorem dX4_isWord_8 : decode cX4_isWord 8 = .ok (.aload_n 0, 1) := by decide +kernel
theorem dX4_isWord_9 : decode cX4_isWord 9 = .ok (.getfield 30, 3) := by decide +kernel
theorem dX4_isWord_12 : decode cX4_isWord 12 = .ok (.aload_n 0, 1) := by decide +kernel
theorem dX4_isWord_13 : decode cX4_isWord 13 = .ok (.getfield 102, 3) := by decide +kernel
theorem dX4_isWord_16 : decode cX4_isWord 16 = .ok (.isub, 1) := by decide +kernel
theorem dX4_isWord_17 : decode cX4_isWord 17 = .ok (.aload_n 1, 1) := by decide +kernel
theorem dX4_isWord_18 : decode cX4_isWord 18 = .ok (.invokevirtual 120, 3) := by decide +kernel
theorem dX4_isWord_21 : decode cX4_isWord 21 = .ok (.if_icmp .eq 5, 3) := by decide +kernel
theorem dX4_isWord_24 : decode cX4_isWord 24 = .ok (.iconst 0, 1) := by decide +kernel
theorem dX4_isWord_25 : decode cX4_isWord 25 = .ok (.ireturn, 1) := by decide +kernel
theorem dX4_isWord_26 : decode cX4_isWord 26 = .ok (.iconst 0, 1) := by decide +kernel
theorem dX4_isWord_27 : decode cX4_isWord 27 = .ok (.istore_n 2, 1) := by decide +kernel
theorem dX4_isWord_28 : decode cX4_isWord 28 = .ok (.iload_n 2, 1) := by decide +kernel
theorem dX4_isWord_29 : decode cX4_isWord 29 = .ok (.aload_n 1, 1) := by decide +kernel
theorem dX4_isWord_30 : decode cX4_isWord 30 = .ok (.invokevirtual 120, 3) := by decide +kernel
theorem dX4_isWord_33 : decode cX4_isWord 33 = .ok (.if_icmp .ge 30, 3) := by decide +kernel
theorem dX4_isWord_36 : decode cX4_isWord 36 = .ok (.aload_n 0, 1) := by decide +kernel
theorem dX4_isWord_37 : decode cX4_isWord 37 = .ok (.getfield 9, 3) := by decide +kernel
theorem dX4_isWord_40 : decode cX4_isWord 40 = .ok (.aload_n 0, 1) := by decide +kernel
theorem dX4_isWord_41 : decode cX4_isWord 41 = .ok (.getfield 102, 3) := by decide +kernel
theorem dX4_isWord_44 : decode cX4_isWord 44 = .ok (.iload_n 2, 1) := by decide +kernel
theorem dX4_isWord_45 : decode cX4_isWord 45 = .ok (.iadd, 1) := by decide +kernel
theorem dX4_isWord_46 : decode cX4_isWord 46 = .ok (.baload, 1) := by decide +kernel
theorem dX4_isWord_47 : decode cX4_isWord 47 = .ok (.aload_n 1, 1) := by decide +kernel
theorem dX4_isWord_48 : decode cX4_isWord 48 = .ok (.iload_n 2, 1) := by decide +kernel
theorem dX4_isWord_49 : decode cX4_isWord 49 = .ok (.invokevirtual 124, 3) := by decide +kernel
theorem dX4_isWord_52 : decode cX4_isWord 52 = .ok (.if_icmp .eq 5, 3) := by decide +kernel
theorem dX4_isWord_55 : decode cX4_isWord 55 = .ok (.iconst 0, 1) := by decide +kernel
theorem dX4_isWord_56 : decode cX4_isWord 56 = .ok (.ireturn, 1) := by decide +kernel
theorem dX4_isWord_57 : decode cX4_isWord 57 = .ok (.iinc 2 1, 3) := by decide +kernel
theorem dX4_isWord_60 : decode cX4_isWord 60 = .ok (.goto (-32), 3) := by decide +kernel
theorem dX4_isWord_63 : decode cX4_isWord 63 = .ok (.iconst 1, 1) := by decide +kernel
theorem dX4_isWord_64 : decode cX4_isWord 64 = .ok (.ireturn, 1) := by decide +kernel
theorem dX5_init_0 : decode cX5_init 0 = .ok (.aload_n 0, 1) := by decide +kernel
theorem dX5_init_1 : decode cX5_init 1 = .ok (.invokespecial 3, 3) := by decide +kernel
theorem dX5_init_4 : decode cX5_init 4 = .ok (.aload_n 0, 1) := by decide +kernel
theorem dX5_init_5 : decode cX5_init 5 = .ok (.bipush 40, 2) := by decide +kernel
theorem dX5_init_7 : decode cX5_init 7 = .ok (.newarray .int, 2) := by decide +kernel
theorem dX5_init_9 : decode cX5_init 9 = .ok (.putfield 9, 3) := by decide +kernel
theorem dX5_init_12 : decode cX5_init 12 = .ok (.return_, 1) := by decide +kernel
theorem dX5_begin_0 : decode cX5_begin 0 = .ok (.aload_n 0, 1) := by decide +kernel
theorem dX5_begin_1 : decode cX5_begin 1 = .ok (.getfield 9, 3) := by decide +kernel
theorem dX5_begin_4 : decode cX5_begin 4 = .ok (.iconst 0, 1) := by decide +kernel
theorem dX5_begin_5 : decode cX5_begin 5 = .ok (.invokestatic 15, 3) := by decide +kernel
theorem dX5_begin_8 : decode cX5_begin 8 = .ok (.aload_n 0, 1) := by decide +kernel
theorem dX5_begin_9 : decode cX5_begin 9 = .ok (.iconst 1, 1) := by decide +kernel
theorem dX5_begin_10 : decode cX5_begin 10 = .ok (.putfield 21, 3) := by decide +kernel
theorem dX5_begin_13 : decode cX5_begin 13 = .ok (.aload_n 0, 1) := by decide +kernel
theorem dX5_begin_14 : decode cX5_begin 14 = .ok (.iload_n 1, 1) := by decide +kernel
theorem dX5_begin_15 : decode cX5_begin 15 = .ok (.putfield 25, 3) := by decide +kernel
theorem dX5_begin_18 : decode cX5_begin 18 = .ok (.aload_n 0, 1) := by decide +kernel
theorem dX5_begin_19 : decode cX5_begin 19 = .ok (.iload_n 2, 1) := by decide +kernel
theorem dX5_begin_20 : decode cX5_begin 20 = .ok (.putfield 29, 3) := by decide +kernel
theorem dX5_begin_23 : decode cX5_begin 23 = .ok (.return_, 1) := by decide +kernel
theorem dX5_hasPlaces_0 : decode cX5_hasPlaces 0 = .ok (.iload_n 1, 1) := by decide +kernel
theorem dX5_hasPlaces_1 : decode cX5_hasPlaces 1 = .ok (.ifCond .lt 29, 3) := by decide +kernel
theorem dX5_hasPlaces_4 : decode cX5_hasPlaces 4 = .ok (.iload_n 2, 1) := by decide +kernel
theorem dX5_hasPlaces_5 : decode cX5_hasPlaces 5 = .ok (.ifCond .lt 25, 3) := by decide +kernel
theorem dX5_hasPlaces_8 : decode cX5_hasPlaces 8 = .ok (.iload_n 1, 1) := by decide +kernel
theorem dX5_hasPlaces_9 : decode cX5_hasPlaces 9 = .ok (.aload_n 0, 1) := by decide +kernel
theorem dX5_hasPlaces_10 : decode cX5_hasPlaces 10 = .ok (.getfield 29, 3) := by decide +kernel
theorem dX5_hasPlaces_13 : decode cX5_hasPlaces 13 = .ok (.if_icmp .gt 17, 3) := by decide +kernel
theorem dX5_hasPlaces_16 : decode cX5_hasPlaces 16 = .ok (.iload_n 2, 1) := by decide +kernel
theorem dX5_hasPlaces_17 : decode cX5_hasPlaces 17 = .ok (.aload_n 0, 1) := by decide +kernel
theorem dX5_hasPlaces_18 : decode cX5_hasPlaces 18 = .ok (.getfield 29, 3) := by decide +kernel
theorem dX5_hasPlaces_21 : decode cX5_hasPlaces 21 = .ok (.iload_n 1, 1) := by decide +kernel
theorem dX5_hasPlaces_22 : decode cX5_hasPlaces 22 = .ok (.isub, 1) := by decide +kernel
theorem dX5_hasPlaces_23 : decode cX5_hasPlaces 23 = .ok (.if_icmp .gt 7, 3) := by decide +kernel
theorem dX5_hasPlaces_26 : decode cX5_hasPlaces 26 = .ok (.iconst 1, 1) := by decide +kernel
theorem dX5_hasPlaces_27 : decode cX5_hasPlaces 27 = .ok (.goto 4, 3) := by decide +kernel
theorem dX5_hasPlaces_30 : decode cX5_hasPlaces 30 = .ok (.iconst 0, 1) := by decide +kernel
theorem dX5_hasPlaces_31 : decode cX5_hasPlaces 31 = .ok (.ireturn, 1) := by decide +kernel
theorem dX5_lowestBits_0 : decode cX5_lowestBits 0 = .ok (.aload_n 0, 1) := by decide +kernel
theorem dX5_lowestBits_1 : decode cX5_lowestBits 1 = .ok (.getfield 25, 3) := by decide +kernel
theorem dX5_lowestBits_4 : decode cX5_lowestBits 4 = .ok (.ifCond .ne 6, 3) := by decide +kernel
theorem dX5_lowestBits_7 : decode cX5_lowestBits 7 = .ok (.iload_n 1, 1) := by decide +kernel
theorem dX5_lowestBits_8 : decode cX5_lowestBits 8 = .ok (.i2b, 1) := by decide +kernel
theorem dX5_lowestBits_9 : decode cX5_lowestBits 9 = .ok (.ireturn, 1) := by decide +kernel
theorem dX5_lowestBits_10 : decode cX5_lowestBits 10 = .ok (.aload_n 0, 1) := by decide +kernel
theorem dX5_lowestBits_11 : decode cX5_lowestBits 11 = .ok (.getfield 25, 3) := by decide +kernel
theorem dX5_lowestBits_14 : decode cX5_lowestBits 14 = .ok (.iconst 1, 1) := by decide +kernel
theorem dX5_lowestBits_15 : decode cX5_lowestBits 15 = .ok (.if_icmp .ne 8, 3) := by decide +kernel
theorem dX5_lowestBits_18 : decode cX5_lowestBits 18 = .ok (.iload_n 1, 1) := by decide +kernel
theorem dX5_lowestBits_19 : decode cX5_lowestBits 19 = .ok (.i2s, 1) := by decide +kernel
theorem dX5_lowestBits_20 : decode cX5_lowestBits 20 = .ok (.goto 4, 3) := by decide +kernel
theorem dX5_lowestBits_23 : decode cX5_lowestBits 23 = .ok (.iload_n 1, 1) := by decide +kernel
theorem dX5_lowestBits_24 : decode cX5_lowestBits 24 = .ok (.ireturn, 1) := by decide +kernel
theorem dJ0_length_8abf5_0 : decode cJ0_length_8abf5 0 = .ok (.aload_n 0, 1) := by decide +kernel
theorem dJ0_length_8abf5_1 : decode cJ0_length_8abf5 1 = .ok (.getfield 9, 3) := by decide +kernel
theorem dJ0_length_8abf5_4 : decode cJ0_length_8abf5 4 = .ok (.arraylength, 1) := by decide +kernel
theorem dJ0_length_8abf5_5 : decode cJ0_length_8abf5 5 = .ok (.aload_n 0, 1) := by decide +kernel
theorem dJ0_length_8abf5_6 : decode cJ0_length_8abf5 6 = .ok (.invokevirtual 335, 3) := by decide +kernel
theorem dJ0_length_8abf5_9 : decode cJ0_length_8abf5 9 = .ok (.ishr, 1) := by decide +kernel
theorem dJ0_length_8abf5_10 : decode cJ0_length_8abf5 10 = .ok (.ireturn, 1) := by decide +kernel
theorem dJ0_charAt_5068e_0 : decode cJ0_charAt_5068e 0 = .ok (.aload_n 0, 1) := by decide +kernel
theorem dJ0_charAt_5068e_1 : decode cJ0_charAt_5068e 1 = .ok (.invokevirtual 492, 3) := by decide +kernel
theorem dJ0_charAt_5068e_4 : decode cJ0_charAt_5068e 4 = .ok (.ifCond .eq 12, 3) := by decide +kernel
theorem dJ0_charAt_5068e_7 : decode cJ0_charAt_5068e 7 = .ok (.aload_n 0, 1) := by decide +kernel
theorem dJ0_charAt_5068e_8 : decode cJ0_charAt_5068e 8 = .ok (.getfield 9, 3) := by decide +kernel
theorem dJ0_charAt_5068e_11 : decode cJ0_charAt_5068e 11 = .ok (.iload_n 1, 1) := by decide +kernel
theorem dJ0_charAt_5068e_12 : decode cJ0_charAt_5068e 12 = .ok (.invokestatic 495, 3) := by decide +kernel
theorem dJ0_charAt_5068e_15 : decode cJ0_charAt_5068e 15 = .ok (.ireturn, 1) := by decide +kernel
theorem dJ0_charAt_5068e_16 : decode cJ0_charAt_5068e 16 = .ok (.aload_n 0, 1) := by decide +kernel
theorem dJ0_charAt_5068e_17 : decode cJ0_charAt_5068e 17 = .ok (.getfield 9, 3) := by decide +kernel
theorem dJ0_charAt_5068e_20 : decode cJ0_charAt_5068e 20 = .ok (.iload_n 1, 1) := by decide +kernel
theorem dJ0_charAt_5068e_21 : decode cJ0_charAt_5068e 21 = .ok (.invokestatic 498, 3) := by decide +kernel
theorem dJ0_charAt_5068e_24 : decode cJ0_charAt_5068e 24 = .ok (.ireturn, 1) := by decide +kernel
theorem dJ0_coder_7d493_0 : decode cJ0_coder_7d493 0 = .ok (.getstatic 38, 3) := by decide +kernel
theorem dJ0_coder_7d493_3 : decode cJ0_coder_7d493 3 = .ok (.ifCond .eq 10, 3) := by decide +kernel
theorem dJ0_coder_7d493_6 : decode cJ0_coder_7d493 6 = .ok (.aload_n 0, 1) := by decide +kernel
theorem dJ0_coder_7d493_7 : decode cJ0_coder_7d493 7 = .ok (.getfield 15, 3) := by decide +kernel
theorem dJ0_coder_7d493_10 : decode cJ0_coder_7d493 10 = .ok (.goto 4, 3) := by decide +kernel
theorem dJ0_coder_7d493_13 : decode cJ0_coder_7d493 13 = .ok (.iconst 1, 1) := by decide +kernel
theorem dJ0_coder_7d493_14 : decode cJ0_coder_7d493 14 = .ok (.ireturn, 1) := by decide +kernel
theorem dJ0_isLatin1_aae02_0 : decode cJ0_isLatin1_aae02 0 = .ok (.getstatic 38, 3) := by decide +kernel
theorem dJ0_isLatin1_aae02_3 : decode cJ0_isLatin1_aae02 3 = .ok (.ifCond .eq 14, 3) := by decide +kernel
theorem dJ0_isLatin1_aae02_6 : decode cJ0_isLatin1_aae02 6 = .ok (.aload_n 0, 1) := by decide +kernel
theorem dJ0_isLatin1_aae02_7 : decode cJ0_isLatin1_aae02 7 = .ok (.getfield 15, 3) := by decide +kernel
theorem dJ0_isLatin1_aae02_10 : decode cJ0_isLatin1_aae02 10 = .ok (.ifCond .ne 7, 3) := by decide +kernel
theorem dJ0_isLatin1_aae02_13 : decode cJ0_isLatin1_aae02 13 = .ok (.iconst 1, 1) := by decide +kernel
theorem dJ0_isLatin1_aae02_14 : decode cJ0_isLatin1_aae02 14 = .ok (.goto 4, 3) := by decide +kernel
theorem dJ0_isLatin1_aae02_17 : decode cJ0_isLatin1_aae02 17 = .ok (.iconst 0, 1) := by decide +kernel
theorem dJ0_isLatin1_aae02_18 : decode cJ0_isLatin1_aae02 18 = .ok (.ireturn, 1) := by decide +kernel
theorem dJ0_checkIndex_df160_0 : decode cJ0_checkIndex_df160 0 = .ok (.iload_n 0, 1) := by decide +kernel
theorem dJ0_checkIndex_df160_1 : decode cJ0_checkIndex_df160 1 = .ok (.iload_n 1, 1) := by decide +kernel
theorem dJ0_checkIndex_df160_2 : decode cJ0_checkIndex_df160 2 = .ok (.getstatic 1053, 3) := by decide +kernel
theorem dJ0_checkIndex_df160_5 : decode cJ0_checkIndex_df160 5 = .ok (.invokestatic 1059, 3) := by decide +kernel
theorem dJ0_checkIndex_df160_8 : decode cJ0_checkIndex_df160 8 = .ok (.pop, 1) := by decide +kernel
theorem dJ0_checkIndex_df160_9 : decode cJ0_checkIndex_df160 9 = .ok (.return_, 1) := by decide +kernel
theorem dJ1_charAt_3b067_0 : decode cJ1_charAt_3b067 0 = .ok (.iload_n 1, 1) := by decide +kernel
theorem dJ1_charAt_3b067_1 : decode cJ1_charAt_3b067 1 = .ok (.aload_n 0, 1) := by decide +kernel
theorem dJ1_charAt_3b067_2 : decode cJ1_charAt_3b067 2 = .ok (.arraylength, 1) := by decide +kernel
theorem dJ1_charAt_3b067_3 : decode cJ1_charAt_3b067 3 = .ok (.invokestatic 9, 3) := by decide +kernel
theorem dJ1_charAt_3b067_6 : decode cJ1_charAt_3b067 6 = .ok (.aload_n 0, 1) := by decide +kernel
theorem dJ1_charAt_3b067_7 : decode cJ1_charAt_3b067 7 = .ok (.iload_n 1, 1) := by decide +kernel
theorem dJ1_charAt_3b067_8 : decode cJ1_charAt_3b067 8 = .ok (.baload, 1) := by decide +kernel
theorem dJ1_charAt_3b067_9 : decode cJ1_charAt_3b067 9 = .ok (.sipush 255, 3) := by decide +kernel
theorem dJ1_charAt_3b067_12 : decode cJ1_charAt_3b067 12 = .ok (.iand, 1) := by decide +kernel
theorem dJ1_charAt_3b067_13 : decode cJ1_charAt_3b067 13 = .ok (.i2c, 1) := by decide +kernel
theorem dJ1_charAt_3b067_14 : decode cJ1_charAt_3b067 14 = .ok (.ireturn, 1) := by decide +kernel
theorem dJ2_getChar_3b067_0 : decode cJ2_getChar_3b067 0 = .ok (.getstatic 44, 3) := by decide +kernel
theorem dJ2_getChar_3b067_3 : decode cJ2_getChar_3b067 3 = .ok (.ifCond .ne 25, 3) := by decide +kernel
theorem dJ2_getChar_3b067_6 : decode cJ2_getChar_3b067 6 = .ok (.iload_n 1, 1) := by decide +kernel
theorem dJ2_getChar_3b067_7 : decode cJ2_getChar_3b067 7 = .ok (.ifCond .lt 11, 3) := by decide +kernel
theorem dJ2_getChar_3b067_10 : decode cJ2_getChar_3b067 10 = .ok (.iload_n 1, 1) := by decide +kernel
theorem dJ2_getChar_3b067_11 : decode cJ2_getChar_3b067 11 = .ok (.aload_n 0, 1) := by decide +kernel
theorem dJ2_getChar_3b067_12 : decode cJ2_getChar_3b067 12 = .ok (.invokestatic 48, 3) := by decide +kernel
theorem dJ2_getChar_3b067_15 : decode cJ2_getChar_3b067 15 = .ok (.if_icmp .lt 13, 3) := by decide +kernel
theorem dJ2_getChar_3b067_18 : decode cJ2_getChar_3b067 18 = .ok (.new 52, 3) := by decide +kernel
theorem dJ2_getChar_3b067_21 : decode cJ2_getChar_3b067 21 = .ok (.dup, 1) := by decide +kernel
theorem dJ2_getChar_3b067_22 : decode cJ2_getChar_3b067 22 = .ok (.ldc 54, 2) := by decide +kernel
theorem dJ2_getChar_3b067_24 : decode cJ2_getChar_3b067 24 = .ok (.invokespecial 56, 3) := by decide +kernel
theorem dJ2_getChar_3b067_27 : decode cJ2_getChar_3b067 27 = .ok (.athrow, 1) := by decide +kernel
theorem dJ2_getChar_3b067_28 : decode cJ2_getChar_3b067 28 = .ok (.iload_n 1, 1) := by decide +kernel
theorem dJ2_getChar_3b067_29 : decode cJ2_getChar_3b067 29 = .ok (.iconst 1, 1) := by decide +kernel
theorem dJ2_getChar_3b067_30 : decode cJ2_getChar_3b067 30 = .ok (.ishl, 1) := by decide +kernel
theorem dJ2_getChar_3b067_31 : decode cJ2_getChar_3b067 31 = .ok (.istore_n 1, 1) := by decide +kernel
theorem dJ2_getChar_3b067_32 : decode cJ2_getChar_3b067 32 = .ok (.aload_n 0, 1) := by decide +kernel
theorem dJ2_getChar_3b067_33 : decode cJ2_getChar_3b067 33 = .ok (.iload_n 1, 1) := by decide +kernel
theorem dJ2_getChar_3b067_34 : decode cJ2_getChar_3b067 34 = .ok (.iinc 1 1, 3) := by decide +kernel
theorem dJ2_getChar_3b067_37 : decode cJ2_getChar_3b067 37 = .ok (.baload, 1) := by decide +kernel
theorem dJ2_getChar_3b067_38 : decode cJ2_getChar_3b067 38 = .ok (.sipush 255, 3) := by decide +kernel
theorem dJ2_getChar_3b067_41 : decode cJ2_getChar_3b067 41 = .ok (.iand, 1) := by decide +kernel
theorem dJ2_getChar_3b067_42 : decode cJ2_getChar_3b067 42 = .ok (.getstatic 59, 3) := by decide +kernel
theorem dJ2_getChar_3b067_45 : decode cJ2_getChar_3b067 45 = .ok (.ishl, 1) := by decide +kernel
theorem dJ2_getChar_3b067_46 : decode cJ2_getChar_3b067 46 = .ok (.aload_n 0, 1) := by decide +kernel
theorem dJ2_getChar_3b067_47 : decode cJ2_getChar_3b067 47 = .ok (.iload_n 1, 1) := by decide +kernel
theorem dJ2_getChar_3b067_48 : decode cJ2_getChar_3b067 48 = .ok (.baload, 1) := by decide +kernel
theorem dJ2_getChar_3b067_49 : decode cJ2_getChar_3b067 49 = .ok (.sipush 255, 3) := by decide +kernel
theorem dJ2_getChar_3b067_52 : decode cJ2_getChar_3b067 52 = .ok (.iand, 1) := by decide +kernel
theorem dJ2_getChar_3b067_53 : decode cJ2_getChar_3b067 53 = .ok (.getstatic 63, 3) := by decide +kernel
theorem dJ2_getChar_3b067_56 : decode cJ2_getChar_3b067 56 = .ok (.ishl, 1) := by decide +kernel
theorem dJ2_getChar_3b067_57 : decode cJ2_getChar_3b067 57 = .ok (.ior, 1) := by decide +kernel
theorem dJ2_getChar_3b067_58 : decode cJ2_getChar_3b067 58 = .ok (.i2c, 1) := by decide +kernel
theorem dJ2_getChar_3b067_59 : decode cJ2_getChar_3b067 59 = .ok (.ireturn, 1) := by decide +kernel
theorem dJ2_length_9d52b_0 : decode cJ2_length_9d52b 0 = .ok (.aload_n 0, 1) := by decide +kernel
theorem dJ2_length_9d52b_1 : decode cJ2_length_9d52b 1 = .ok (.arraylength, 1) := by decide +kernel
theorem dJ2_length_9d52b_2 : decode cJ2_length_9d52b 2 = .ok (.iconst 1, 1) := by decide +kernel
theorem dJ2_length_9d52b_3 : decode cJ2_length_9d52b 3 = .ok (.ishr, 1) := by decide +kernel
theorem dJ2_length_9d52b_4 : decode cJ2_length_9d52b 4 = .ok (.ireturn, 1) := by decide +kernel
theorem dJ2_charAt_3b067_0 : decode cJ2_charAt_3b067 0 = .ok (.iload_n 1, 1) := by decide +kernel
theorem dJ2_charAt_3b067_1 : decode cJ2_charAt_3b067 1 = .ok (.aload_n 0, 1) := by decide +kernel
theorem dJ2_charAt_3b067_2 : decode cJ2_charAt_3b067 2 = .ok (.invokestatic 67, 3) := by decide +kernel
theorem dJ2_charAt_3b067_5 : decode cJ2_charAt_3b067 5 = .ok (.aload_n 0, 1) := by decide +kernel
theorem dJ2_charAt_3b067_6 : decode cJ2_charAt_3b067 6 = .ok (.iload_n 1, 1) := by decide +kernel
theorem dJ2_charAt_3b067_7 : decode cJ2_charAt_3b067 7 = .ok (.invokestatic 71, 3) := by decide +kernel
theorem dJ2_charAt_3b067_10 : decode cJ2_charAt_3b067 10 = .ok (.ireturn, 1) := by decide +kernel
theorem dJ2_checkIndex_2214a_0 : decode cJ2_checkIndex_2214a 0 = .ok (.iload_n 0, 1) := by decide +kernel
theorem dJ2_checkIndex_2214a_1 : decode cJ2_checkIndex_2214a 1 = .ok (.aload_n 1, 1) := by decide +kernel
theorem dJ2_checkIndex_2214a_2 : decode cJ2_checkIndex_2214a 2 = .ok (.invokestatic 48, 3) := by decide +kernel
theorem dJ2_checkIndex_2214a_5 : decode cJ2_checkIndex_2214a 5 = .ok (.invokestatic 414, 3) := by decide +kernel
theorem dJ2_checkIndex_2214a_8 : decode cJ2_checkIndex_2214a 8 = .ok (.return_, 1) := by decide +kernel
theorem dJ3_checkIndex_8e157_0 : decode cJ3_checkIndex_8e157 0 = .ok (.iload_n 0, 1) := by decide +kernel
theorem dJ3_checkIndex_8e157_1 : decode cJ3_checkIndex_8e157 1 = .ok (.ifCond .lt 8, 3) := by decide +kernel
theorem dJ3_checkIndex_8e157_4 : decode cJ3_checkIndex_8e157 4 = .ok (.iload_n 0, 1) := by decide +kernel
theorem dJ3_checkIndex_8e157_5 : decode cJ3_checkIndex_8e157 5 = .ok (.iload_n 1, 1) := by decide +kernel
theorem dJ3_checkIndex_8e157_6 : decode cJ3_checkIndex_8e157 6 = .ok (.if_icmp .lt 10, 3) := by decide +kernel
theorem dJ3_checkIndex_8e157_9 : decode cJ3_checkIndex_8e157 9 = .ok (.aload_n 2, 1) := by decide +kernel
theorem dJ3_checkIndex_8e157_10 : decode cJ3_checkIndex_8e157 10 = .ok (.iload_n 0, 1) := by decide +kernel
theorem dJ3_checkIndex_8e157_11 : decode cJ3_checkIndex_8e157 11 = .ok (.iload_n 1, 1) := by decide +kernel
theorem dJ3_checkIndex_8e157_12 : decode cJ3_checkIndex_8e157 12 = .ok (.invokestatic 95, 3) := by decide +kernel
theorem dJ3_checkIndex_8e157_15 : decode cJ3_checkIndex_8e157 15 = .ok (.athrow, 1) := by decide +kernel
theorem dJ3_checkIndex_8e157_16 : decode cJ3_checkIndex_8e157 16 = .ok (.iload_n 0, 1) := by decide +kernel
theorem dJ3_checkIndex_8e157_17 : decode cJ3_checkIndex_8e157 17 = .ok (.ireturn, 1) := by decide +kernel
theorem dJ6_bitCount_0f7a4_0 : decode cJ6_bitCount_0f7a4 0 = .ok (.iload_n 0, 1) := by decide +kernel
theorem dJ6_bitCount_0f7a4_1 : decode cJ6_bitCount_0f7a4 1 = .ok (.iload_n 0, 1) := by decide +kernel
theorem dJ6_bitCount_0f7a4_2 : decode cJ6_bitCount_0f7a4 2 = .ok (.iconst 1, 1) := by decide +kernel
theorem dJ6_bitCount_0f7a4_3 : decode cJ6_bitCount_0f7a4 3 = .ok (.iushr, 1) := by decide +kernel
theorem dJ6_bitCount_0f7a4_4 : decode cJ6_bitCount_0f7a4 4 = .ok (.ldc_w 265, 3) := by decide +kernel
theorem dJ6_bitCount_0f7a4_7 : decode cJ6_bitCount_0f7a4 7 = .ok (.iand, 1) := by decide +kernel
theorem dJ6_bitCount_0f7a4_8 : decode cJ6_bitCount_0f7a4 8 = .ok (.isub, 1) := by decide +kernel
theorem dJ6_bitCount_0f7a4_9 : decode cJ6_bitCount_0f7a4 9 = .ok (.istore_n 0, 1) := by decide +kernel
theorem dJ6_bitCount_0f7a4_10 : decode cJ6_bitCount_0f7a4 10 = .ok (.iload_n 0, 1) := by decide +kernel
theorem dJ6_bitCount_0f7a4_11 : decode cJ6_bitCount_0f7a4 11 = .ok (.ldc_w 266, 3) := by decide +kernel
theorem dJ6_bitCount_0f7a4_14 : decode cJ6_bitCount_0f7a4 14 = .ok (.iand, 1) := by decide +kernel
theorem dJ6_bitCount_0f7a4_15 : decode cJ6_bitCount_0f7a4 15 = .ok (.iload_n 0, 1) := by decide +kernel
theorem dJ6_bitCount_0f7a4_16 : decode cJ6_bitCount_0f7a4 16 = .ok (.iconst 2, 1) := by decide +kernel
theorem dJ6_bitCount_0f7a4_17 : decode cJ6_bitCount_0f7a4 17 = .ok (.iushr, 1) := by decide +kernel
theorem dJ6_bitCount_0f7a4_18 : decode cJ6_bitCount_0f7a4 18 = .ok (.ldc_w 266, 3) := by decide +kernel
theorem dJ6_bitCount_0f7a4_21 : decode cJ6_bitCount_0f7a4 21 = .ok (.iand, 1) := by decide +kernel
theorem dJ6_bitCount_0f7a4_22 : decode cJ6_bitCount_0f7a4 22 = .ok (.iadd, 1) := by decide +kernel
theorem dJ6_bitCount_0f7a4_23 : decode cJ6_bitCount_0f7a4 23 = .ok (.istore_n 0, 1) := by decide +kernel
theorem dJ6_bitCount_0f7a4_24 : decode cJ6_bitCount_0f7a4 24 = .ok (.iload_n 0, 1) := by decide +kernel
theorem dJ6_bitCount_0f7a4_25 : decode cJ6_bitCount_0f7a4 25 = .ok (.iload_n 0, 1) := by decide +kernel
theorem dJ6_bitCount_0f7a4_26 : decode cJ6_bitCount_0f7a4 26 = .ok (.iconst 4, 1) := by decide +kernel
theorem dJ6_bitCount_0f7a4_27 : decode cJ6_bitCount_0f7a4 27 = .ok (.iushr, 1) := by decide +kernel
theorem dJ6_bitCount_0f7a4_28 : decode cJ6_bitCount_0f7a4 28 = .ok (.iadd, 1) := by decide +kernel
theorem dJ6_bitCount_0f7a4_29 : decode cJ6_bitCount_0f7a4 29 = .ok (.ldc_w 267, 3) := by decide +kernel
theorem dJ6_bitCount_0f7a4_32 : decode cJ6_bitCount_0f7a4 32 = .ok (.iand, 1) := by decide +kernel
theorem dJ6_bitCount_0f7a4_33 : decode cJ6_bitCount_0f7a4 33 = .ok (.istore_n 0, 1) := by decide +kernel
theorem dJ6_bitCount_0f7a4_34 : decode cJ6_bitCount_0f7a4 34 = .ok (.iload_n 0, 1) := by decide +kernel
theorem dJ6_bitCount_0f7a4_35 : decode cJ6_bitCount_0f7a4 35 = .ok (.iload_n 0, 1) := by decide +kernel
theorem dJ6_bitCount_0f7a4_36 : decode cJ6_bitCount_0f7a4 36 = .ok (.bipush 8, 2) := by decide +kernel
theorem dJ6_bitCount_0f7a4_38 : decode cJ6_bitCount_0f7a4 38 = .ok (.iushr, 1) := by decide +kernel
theorem dJ6_bitCount_0f7a4_39 : decode cJ6_bitCount_0f7a4 39 = .ok (.iadd, 1) := by decide +kernel
theorem dJ6_bitCount_0f7a4_40 : decode cJ6_bitCount_0f7a4 40 = .ok (.istore_n 0, 1) := by decide +kernel
theorem dJ6_bitCount_0f7a4_41 : decode cJ6_bitCount_0f7a4 41 = .ok (.iload_n 0, 1) := by decide +kernel
theorem dJ6_bitCount_0f7a4_42 : decode cJ6_bitCount_0f7a4 42 = .ok (.iload_n 0, 1) := by decide +kernel
theorem dJ6_bitCount_0f7a4_43 : decode cJ6_bitCount_0f7a4 43 = .ok (.bipush 16, 2) := by decide +kernel
theorem dJ6_bitCount_0f7a4_45 : decode cJ6_bitCount_0f7a4 45 = .ok (.iushr, 1) := by decide +kernel
theorem dJ6_bitCount_0f7a4_46 : decode cJ6_bitCount_0f7a4 46 = .ok (.iadd, 1) := by decide +kernel
theorem dJ6_bitCount_0f7a4_47 : decode cJ6_bitCount_0f7a4 47 = .ok (.istore_n 0, 1) := by decide +kernel
theorem dJ6_bitCount_0f7a4_48 : decode cJ6_bitCount_0f7a4 48 = .ok (.iload_n 0, 1) := by decide +kernel
theorem dJ6_bitCount_0f7a4_49 : decode cJ6_bitCount_0f7a4 49 = .ok (.bipush 63, 2) := by decide +kernel
theorem dJ6_bitCount_0f7a4_51 : decode cJ6_bitCount_0f7a4 51 = .ok (.iand, 1) := by decide +kernel
theorem dJ6_bitCount_0f7a4_52 : decode cJ6_bitCount_0f7a4 52 = .ok (.ireturn, 1) := by decide +kernel
theorem dJ7_fill_53178_0 : decode cJ7_fill_53178 0 = .ok (.iconst 0, 1) := by decide +kernel
theorem dJ7_fill_53178_1 : decode cJ7_fill_53178 1 = .ok (.istore_n 2, 1) := by decide +kernel
theorem dJ7_fill_53178_2 : decode cJ7_fill_53178 2 = .ok (.aload_n 0, 1) := by decide +kernel
theorem dJ7_fill_53178_3 : decode cJ7_fill_53178 3 = .ok (.arraylength, 1) := by decide +kernel
theorem dJ7_fill_53178_4 : decode cJ7_fill_53178 4 = .ok (.istore_n 3, 1) := by decide +kernel
theorem dJ7_fill_53178_5 : decode cJ7_fill_53178 5 = .ok (.iload_n 2, 1) := by decide +kernel
theorem dJ7_fill_53178_6 : decode cJ7_fill_53178 6 = .ok (.iload_n 3, 1) := by decide +kernel
theorem dJ7_fill_53178_7 : decode cJ7_fill_53178 7 = .ok (.if_icmp .ge 13, 3) := by decide +kernel
theorem dJ7_fill_53178_10 : decode cJ7_fill_53178 10 = .ok (.aload_n 0, 1) := by decide +kernel
theorem dJ7_fill_53178_11 : decode cJ7_fill_53178 11 = .ok (.iload_n 2, 1) := by decide +kernel
theorem dJ7_fill_53178_12 : decode cJ7_fill_53178 12 = .ok (.iload_n 1, 1) := by decide +kernel
theorem dJ7_fill_53178_13 : decode cJ7_fill_53178 13 = .ok (.iastore, 1) := by decide +kernel
theorem dJ7_fill_53178_14 : decode cJ7_fill_53178 14 = .ok (.iinc 2 1, 3) := by decide +kernel
theorem dJ7_fill_53178_17 : decode cJ7_fill_53178 17 = .ok (.goto (-12), 3) := by decide +kernel
theorem dJ7_fill_53178_20 : decode cJ7_fill_53178 20 = .ok (.return_, 1) := by decide +kernel
theorem dJ9_min_7cf53_0 : decode cJ9_min_7cf53 0 = .ok (.iload_n 0, 1) := by decide +kernel
theorem dJ9_min_7cf53_1 : decode cJ9_min_7cf53 1 = .ok (.iload_n 1, 1) := by decide +kernel
theorem dJ9_min_7cf53_2 : decode cJ9_min_7cf53 2 = .ok (.if_icmp .gt 7, 3) := by decide +kernel
theorem dJ9_min_7cf53_5 : decode cJ9_min_7cf53 5 = .ok (.iload_n 0, 1) := by decide +kernel
theorem dJ9_min_7cf53_6 : decode cJ9_min_7cf53 6 = .ok (.goto 4, 3) := by decide +kernel
theorem dJ9_min_7cf53_9 : decode cJ9_min_7cf53 9 = .ok (.iload_n 1, 1) := by decide +kernel
theorem dJ9_min_7cf53_10 : decode cJ9_min_7cf53 10 = .ok (.ireturn, 1) := by decide +kernel
end
section
theorem dX6_init_0 : decode cX6_init 0 = .ok (.aload_n 0, 1) := by decide +kernel
theorem dX6_init_1 : decode cX6_init 1 = .ok (.invokespecial 1, 3) := by decide +kernel
theorem dX6_init_4 : decode cX6_init 4 = .ok (.aload_n 0, 1) := by decide +kernel
theorem dX6_init_5 : decode cX6_init 5 = .ok (.bipush 8, 2) := by decide +kernel
theorem dX6_init_7 : decode cX6_init 7 = .ok (.anewarray 9, 3) := by decide +kernel
theorem dX6_init_10 : decode cX6_init 10 = .ok (.putfield 11, 3) := by decide +kernel
theorem dX6_init_13 : decode cX6_init 13 = .ok (.aload_n 0, 1) := by decide +kernel
theorem dX6_init_14 : decode cX6_init 14 = .ok (.new 15, 3) := by decide +kernel
theorem dX6_init_17 : decode cX6_init 17 = .ok (.dup, 1) := by decide +kernel
theorem dX6_init_18 : decode cX6_init 18 = .ok (.invokespecial 17, 3) := by decide +kernel
theorem dX6_init_21 : decode cX6_init 21 = .ok (.putfield 18, 3) := by decide +kernel
theorem dX6_init_24 : decode cX6_init 24 = .ok (.aload_n 0, 1) := by decide +kernel
theorem dX6_init_25 : decode cX6_init 25 = .ok (.new 22, 3) := by decide +kernel
theorem dX6_init_28 : decode cX6_init 28 = .ok (.dup, 1) := by decide +kernel
theorem dX6_init_29 : decode cX6_init 29 = .ok (.invokespecial 24, 3) := by decide +kernel
theorem dX6_init_32 : decode cX6_init 32 = .ok (.putfield 25, 3) := by decide +kernel
theorem dX6_init_35 : decode cX6_init 35 = .ok (.aload_n 0, 1) := by decide +kernel
theorem dX6_init_36 : decode cX6_init 36 = .ok (.iconst 2, 1) := by decide +kernel
theorem dX6_init_37 : decode cX6_init 37 = .ok (.anewarray 22, 3) := by decide +kernel
theorem dX6_init_40 : decode cX6_init 40 = .ok (.putfield 29, 3) := by decide +kernel
theorem dX6_init_43 : decode cX6_init 43 = .ok (.aload_n 0, 1) := by decide +kernel
theorem dX6_init_44 : decode cX6_init 44 = .ok (.new 33, 3) := by decide +kernel
theorem dX6_init_47 : decode cX6_init 47 = .ok (.dup, 1) := by decide +kernel
theorem dX6_init_48 : decode cX6_init 48 = .ok (.invokespecial 35, 3) := by decide +kernel
theorem dX6_init_51 : decode cX6_init 51 = .ok (.putfield 36, 3) := by decide +kernel
theorem dX6_init_54 : decode cX6_init 54 = .ok (.aload_n 0, 1) := by decide +kernel
theorem dX6_init_55 : decode cX6_init 55 = .ok (.new 40, 3) := by decide +kernel
theorem dX6_init_58 : decode cX6_init 58 = .ok (.dup, 1) := by decide +kernel
theorem dX6_init_59 : decode cX6_init 59 = .ok (.invokespecial 42, 3) := by decide +kernel
theorem dX6_init_62 : decode cX6_init 62 = .ok (.putfield 43, 3) := by decide +kernel
theorem dX6_init_65 : decode cX6_init 65 = .ok (.aload_n 0, 1) := by decide +kernel
theorem dX6_init_66 : decode cX6_init 66 = .ok (.new 47, 3) := by decide +kernel
theorem dX6_init_69 : decode cX6_init 69 = .ok (.dup, 1) := by decide +kernel
theorem dX6_init_70 : decode cX6_init 70 = .ok (.invokespecial 49, 3) := by decide +kernel
theorem dX6_init_73 : decode cX6_init 73 = .ok (.putfield 50, 3) := by decide +kernel
theorem dX6_init_76 : decode cX6_init 76 = .ok (.iconst 0, 1) := by decide +kernel
theorem dX6_init_77 : decode cX6_init 77 = .ok (.istore_n 1, 1) := by decide +kernel
theorem dX6_init_78 : decode cX6_init 78 = .ok (.iload_n 1, 1) := by decide +kernel
theorem dX6_init_79 : decode cX6_init 79 = .ok (.bipush 8, 2) := by decide +kernel
theorem dX6_init_81 : decode cX6_init 81 = .ok (.if_icmp .ge 22, 3) := by decide +kernel
theorem dX6_init_84 : decode cX6_init 84 = .ok (.aload_n 0, 1) := by decide +kernel
theorem dX6_init_85 : decode cX6_init 85 = .ok (.getfield 11, 3) := by decide +kernel
theorem dX6_init_88 : decode cX6_init 88 = .ok (.iload_n 1, 1) := by decide +kernel
theorem dX6_init_89 : decode cX6_init 89 = .ok (.new 9, 3) := by decide +kernel
theorem dX6_init_92 : decode cX6_init 92 = .ok (.dup, 1) := by decide +kernel
theorem dX6_init_93 : decode cX6_init 93 = .ok (.invokespecial 54, 3) := by decide +kernel
theorem dX6_init_96 : decode cX6_init 96 = .ok (.aastore, 1) := by decide +kernel
theorem dX6_init_97 : decode cX6_init 97 = .ok (.iinc 1 1, 3) := by decide +kernel
theorem dX6_init_100 : decode cX6_init 100 = .ok (.goto (-22), 3) := by decide +kernel
theorem dX6_init_103 : decode cX6_init 103 = .ok (.iconst 0, 1) := by decide +kernel
theorem dX6_init_104 : decode cX6_init 104 = .ok (.istore_n 1, 1) := by decide +kernel
theorem dX6_init_105 : decode cX6_init 105 = .ok (.iload_n 1, 1) := by decide +kernel
theorem dX6_init_106 : decode cX6_init 106 = .ok (.iconst 2, 1) := by decide +kernel
theorem dX6_init_107 : decode cX6_init 107 = .ok (.if_icmp .ge 22, 3) := by decide +kernel
theorem dX6_init_110 : decode cX6_init 110 = .ok (.aload_n 0, 1) := by decide +kernel
theorem dX6_init_111 : decode cX6_init 111 = .ok (.getfield 29, 3) := by decide +kernel
theorem dX6_init_114 : decode cX6_init 114 = .ok (.iload_n 1, 1) := by decide +kernel
theorem dX6_init_115 : decode cX6_init 115 = .ok (.new 22, 3) := by decide +kernel
theorem dX6_init_118 : decode cX6_init 118 = .ok (.dup, 1) := by decide +kernel
theorem dX6_init_119 : decode cX6_init 119 = .ok (.invokespecial 24, 3) := by decide +kernel
theorem dX6_init_122 : decode cX6_init 122 = .ok (.aastore, 1) := by decide +kernel
theorem dX6_init_123 : decode cX6_init 123 = .ok (.iinc 1 1, 3) := by decide +kernel
theorem dX6_init_126 : decode cX6_init 126 = .ok (.goto (-21), 3) := by decide +kernel
theorem dX6_init_129 : decode cX6_init 129 = .ok (.return_, 1) := by decide +kernel
theorem dX6_row_0 : decode cX6_row 0 = .ok (.iload_n 1, 1) := by decide +kernel
theorem dX6_row_1 : decode cX6_row 1 = .ok (.invokestatic 55, 3) := by decide +kernel
theorem dX6_row_4 : decode cX6_row 4 = .ok (.ifCond .eq 18, 3) := by decide +kernel
theorem dX6_row_7 : decode cX6_row 7 = .ok (.iload_n 2, 1) := by decide +kernel
theorem dX6_row_8 : decode cX6_row 8 = .ok (.iconst 0, 1) := by decide +kernel
theorem dX6_row_9 : decode cX6_row 9 = .ok (.iconst 2, 1) := by decide +kernel
theorem dX6_row_10 : decode cX6_row 10 = .ok (.invokestatic 59, 3) := by decide +kernel
theorem dX6_row_13 : decode cX6_row 13 = .ok (.ifCond .eq 9, 3) := by decide +kernel
theorem dX6_row_16 : decode cX6_row 16 = .ok (.iload_n 3, 1) := by decide +kernel
theorem dX6_row_17 : decode cX6_row 17 = .ok (.bipush 40, 2) := by decide +kernel
theorem dX6_row_19 : decode cX6_row 19 = .ok (.if_icmp .le 6, 3) := by decide +kernel
theorem dX6_row_22 : decode cX6_row 22 = .ok (.ldc 63, 2) := by decide +kernel
theorem dX6_row_24 : decode cX6_row 24 = .ok (.ireturn, 1) := by decide +kernel
theorem dX6_row_25 : decode cX6_row 25 = .ok (.iload_n 3, 1) := by decide +kernel
theorem dX6_row_26 : decode cX6_row 26 = .ok (.ifCond .ge 9, 3) := by decide +kernel
theorem dX6_row_29 : decode cX6_row 29 = .ok (.aload_n 0, 1) := by decide +kernel
theorem dX6_row_30 : decode cX6_row 30 = .ok (.iconst 4, 1) := by decide +kernel
theorem dX6_row_31 : decode cX6_row 31 = .ok (.invokevirtual 64, 3) := by decide +kernel
theorem dX6_row_34 : decode cX6_row 34 = .ok (.ireturn, 1) := by decide +kernel
theorem dX6_row_35 : decode cX6_row 35 = .ok (.aload_n 0, 1) := by decide +kernel
theorem dX6_row_36 : decode cX6_row 36 = .ok (.getfield 11, 3) := by decide +kernel
theorem dX6_row_39 : decode cX6_row 39 = .ok (.iload_n 1, 1) := by decide +kernel
theorem dX6_row_40 : decode cX6_row 40 = .ok (.aaload, 1) := by decide +kernel
theorem dX6_row_41 : decode cX6_row 41 = .ok (.iload_n 2, 1) := by decide +kernel
theorem dX6_row_42 : decode cX6_row 42 = .ok (.iload_n 3, 1) := by decide +kernel
theorem dX6_row_43 : decode cX6_row 43 = .ok (.invokevirtual 68, 3) := by decide +kernel
theorem dX6_row_46 : decode cX6_row 46 = .ok (.aload_n 0, 1) := by decide +kernel
theorem dX6_row_47 : decode cX6_row 47 = .ok (.iconst 0, 1) := by decide +kernel
theorem dX6_row_48 : decode cX6_row 48 = .ok (.putfield 72, 3) := by decide +kernel
theorem dX6_row_51 : decode cX6_row 51 = .ok (.iload_n 3, 1) := by decide +kernel
theorem dX6_row_52 : decode cX6_row 52 = .ok (.ireturn, 1) := by decide +kernel
theorem dX6_set_0 : decode cX6_set 0 = .ok (.iload_n 1, 1) := by decide +kernel
theorem dX6_set_1 : decode cX6_set 1 = .ok (.invokestatic 55, 3) := by decide +kernel
theorem dX6_set_4 : decode cX6_set 4 = .ok (.ifCond .ne 6, 3) := by decide +kernel
theorem dX6_set_7 : decode cX6_set 7 = .ok (.ldc 63, 2) := by decide +kernel
theorem dX6_set_9 : decode cX6_set 9 = .ok (.ireturn, 1) := by decide +kernel
theorem dX6_set_10 : decode cX6_set 10 = .ok (.aload_n 0, 1) := by decide +kernel
theorem dX6_set_11 : decode cX6_set 11 = .ok (.getfield 11, 3) := by decide +kernel
theorem dX6_set_14 : decode cX6_set 14 = .ok (.iload_n 1, 1) := by decide +kernel
theorem dX6_set_15 : decode cX6_set 15 = .ok (.aaload, 1) := by decide +kernel
theorem dX6_set_16 : decode cX6_set 16 = .ok (.astore 4, 2) := by decide +kernel
theorem dX6_set_18 : decode cX6_set 18 = .ok (.aload 4, 2) := by decide +kernel
theorem dX6_set_20 : decode cX6_set 20 = .ok (.getfield 76, 3) := by decide +kernel
theorem dX6_set_23 : decode cX6_set 23 = .ok (.ifCond .ne 9, 3) := by decide +kernel
theorem dX6_set_26 : decode cX6_set 26 = .ok (.aload_n 0, 1) := by decide +kernel
theorem dX6_set_27 : decode cX6_set 27 = .ok (.iconst 1, 1) := by decide +kernel
theorem dX6_set_28 : decode cX6_set 28 = .ok (.invokevirtual 64, 3) := by decide +kernel
theorem dX6_set_31 : decode cX6_set 31 = .ok (.ireturn, 1) := by decide +kernel
theorem dX6_set_32 : decode cX6_set 32 = .ok (.aload 4, 2) := by decide +kernel
theorem dX6_set_34 : decode cX6_set 34 = .ok (.iload_n 2, 1) := by decide +kernel
theorem dX6_set_35 : decode cX6_set 35 = .ok (.iconst 1, 1) := by decide +kernel
theorem dX6_set_36 : decode cX6_set 36 = .ok (.invokevirtual 80, 3) := by decide +kernel
theorem dX6_set_39 : decode cX6_set 39 = .ok (.ifCond .ne 9, 3) := by decide +kernel
theorem dX6_set_42 : decode cX6_set 42 = .ok (.aload_n 0, 1) := by decide +kernel
theorem dX6_set_43 : decode cX6_set 43 = .ok (.iconst 2, 1) := by decide +kernel
theorem dX6_set_44 : decode cX6_set 44 = .ok (.invokevirtual 64, 3) := by decide +kernel
theorem dX6_set_47 : decode cX6_set 47 = .ok (.ireturn, 1) := by decide +kernel
theorem dX6_set_48 : decode cX6_set 48 = .ok (.aload 4, 2) := by decide +kernel
theorem dX6_set_50 : decode cX6_set 50 = .ok (.getfield 84, 3) := by decide +kernel
theorem dX6_set_53 : decode cX6_set 53 = .ok (.iload_n 2, 1) := by decide +kernel
theorem dX6_set_54 : decode cX6_set 54 = .ok (.aload 4, 2) := by decide +kernel
theorem dX6_set_56 : decode cX6_set 56 = .ok (.iload_n 3, 1) := by decide +kernel
theorem dX6_set_57 : decode cX6_set 57 = .ok (.invokevirtual 88, 3) := by decide +kernel
theorem dX6_set_60 : decode cX6_set 60 = .ok (.iastore, 1) := by decide +kernel
theorem dX6_set_61 : decode cX6_set 61 = .ok (.aload_n 0, 1) := by decide +kernel
theorem dX6_set_62 : decode cX6_set 62 = .ok (.iconst 0, 1) := by decide +kernel
theorem dX6_set_63 : decode cX6_set 63 = .ok (.putfield 72, 3) := by decide +kernel
theorem dX6_set_66 : decode cX6_set 66 = .ok (.aload 4, 2) := by decide +kernel
theorem dX6_set_68 : decode cX6_set 68 = .ok (.getfield 84, 3) := by decide +kernel
theorem dX6_set_71 : decode cX6_set 71 = .ok (.iload_n 2, 1) := by decide +kernel
theorem dX6_set_72 : decode cX6_set 72 = .ok (.iaload, 1) := by decide +kernel
theorem dX6_set_73 : decode cX6_set 73 = .ok (.ireturn, 1) := by decide +kernel
theorem dX6_copy_0 : decode cX6_copy 0 = .ok (.iload_n 1, 1) := by decide +kernel
theorem dX6_copy_1 : decode cX6_copy 1 = .ok (.invokestatic 55, 3) := by decide +kernel
theorem dX6_copy_4 : decode cX6_copy 4 = .ok (.ifCond .eq 10, 3) := by decide +kernel
theorem dX6_copy_7 : decode cX6_copy 7 = .ok (.iload_n 3, 1) := by decide +kernel
theorem dX6_copy_8 : decode cX6_copy 8 = .ok (.invokestatic 55, 3) := by decide +kernel
theorem dX6_copy_11 : decode cX6_copy 11 = .ok (.ifCond .ne 6, 3) := by decide +kernel
theorem dX6_copy_14 : decode cX6_copy 14 = .ok (.ldc 63, 2) := by decide +kernel
theorem dX6_copy_16 : decode cX6_copy 16 = .ok (.ireturn, 1) := by decide +kernel
theorem dX6_copy_17 : decode cX6_copy 17 = .ok (.aload_n 0, 1) := by decide +kernel
theorem dX6_copy_18 : decode cX6_copy 18 = .ok (.getfield 11, 3) := by decide +kernel
theorem dX6_copy_21 : decode cX6_copy 21 = .ok (.iload_n 1, 1) := by decide +kernel
theorem dX6_copy_22 : decode cX6_copy 22 = .ok (.aaload, 1) := by decide +kernel
theorem dX6_copy_23 : decode cX6_copy 23 = .ok (.astore 6, 2) := by decide +kernel
theorem dX6_copy_25 : decode cX6_copy 25 = .ok (.aload_n 0, 1) := by decide +kernel
theorem dX6_copy_26 : decode cX6_copy 26 = .ok (.getfield 11, 3) := by decide +kernel
theorem dX6_copy_29 : decode cX6_copy 29 = .ok (.iload_n 3, 1) := by decide +kernel
theorem dX6_copy_30 : decode cX6_copy 30 = .ok (.aaload, 1) := by decide +kernel
theorem dX6_copy_31 : decode cX6_copy 31 = .ok (.astore 7, 2) := by decide +kernel
theorem dX6_copy_33 : decode cX6_copy 33 = .ok (.aload 6, 2) := by decide +kernel
theorem dX6_copy_35 : decode cX6_copy 35 = .ok (.getfield 76, 3) := by decide +kernel
theorem dX6_copy_38 : decode cX6_copy 38 = .ok (.ifCond .eq 11, 3) := by decide +kernel
theorem dX6_copy_41 : decode cX6_copy 41 = .ok (.aload 7, 2) := by decide +kernel
theorem dX6_copy_43 : decode cX6_copy 43 = .ok (.getfield 76, 3) := by decide +kernel
theorem dX6_copy_46 : decode cX6_copy 46 = .ok (.ifCond .ne 9, 3) := by decide +kernel
theorem dX6_copy_49 : decode cX6_copy 49 = .ok (.aload_n 0, 1) := by decide +kernel
theorem dX6_copy_50 : decode cX6_copy 50 = .ok (.iconst 1, 1) := by decide +kernel
theorem dX6_copy_51 : decode cX6_copy 51 = .ok (.invokevirtual 64, 3) := by decide +kernel
theorem dX6_copy_54 : decode cX6_copy 54 = .ok (.ireturn, 1) := by decide +kernel
theorem dX6_copy_55 : decode cX6_copy 55 = .ok (.aload 6, 2) := by decide +kernel
theorem dX6_copy_57 : decode cX6_copy 57 = .ok (.getfield 91, 3) := by decide +kernel
theorem dX6_copy_60 : decode cX6_copy 60 = .ok (.aload 7, 2) := by decide +kernel
theorem dX6_copy_62 : decode cX6_copy 62 = .ok (.getfield 91, 3) := by decide +kernel
theorem dX6_copy_65 : decode cX6_copy 65 = .ok (.if_icmp .eq 9, 3) := by decide +kernel
theorem dX6_copy_68 : decode cX6_copy 68 = .ok (.aload_n 0, 1) := by decide +kernel
theorem dX6_copy_69 : decode cX6_copy 69 = .ok (.iconst 5, 1) := by decide +kernel
theorem dX6_copy_70 : decode cX6_copy 70 = .ok (.invokevirtual 64, 3) := by decide +kernel
theorem dX6_copy_73 : decode cX6_copy 73 = .ok (.ireturn, 1) := by decide +kernel
theorem dX6_copy_74 : decode cX6_copy 74 = .ok (.aload 6, 2) := by decide +kernel
theorem dX6_copy_76 : decode cX6_copy 76 = .ok (.iload_n 2, 1) := by decide +kernel
theorem dX6_copy_77 : decode cX6_copy 77 = .ok (.iload 5, 2) := by decide +kernel
theorem dX6_copy_79 : decode cX6_copy 79 = .ok (.invokevirtual 80, 3) := by decide +kernel
theorem dX6_copy_82 : decode cX6_copy 82 = .ok (.ifCond .eq 15, 3) := by decide +kernel
theorem dX6_copy_85 : decode cX6_copy 85 = .ok (.aload 7, 2) := by decide +kernel
theorem dX6_copy_87 : decode cX6_copy 87 = .ok (.iload 4, 2) := by decide +kernel
theorem dX6_copy_89 : decode cX6_copy 89 = .ok (.iload 5, 2) := by decide +kernel
theorem dX6_copy_91 : decode cX6_copy 91 = .ok (.invokevirtual 80, 3) := by decide +kernel
theorem dX6_copy_94 : decode cX6_copy 94 = .ok (.ifCond .ne 9, 3) := by decide +kernel
theorem dX6_copy_97 : decode cX6_copy 97 = .ok (.aload_n 0, 1) := by decide +kernel
theorem dX6_copy_98 : decode cX6_copy 98 = .ok (.iconst 2, 1) := by decide +kernel
theorem dX6_copy_99 : decode cX6_copy 99 = .ok (.invokevirtual 64, 3) := by decide +kernel
theorem dX6_copy_102 : decode cX6_copy 102 = .ok (.ireturn, 1) := by decide +kernel
theorem dX6_copy_103 : decode cX6_copy 103 = .ok (.aload 6, 2) := by decide +kernel
theorem dX6_copy_105 : decode cX6_copy 105 = .ok (.getfield 84, 3) := by decide +kernel
theorem dX6_copy_108 : decode cX6_copy 108 = .ok (.iload_n 2, 1) := by decide +kernel
theorem dX6_copy_109 : decode cX6_copy 109 = .ok (.aload 7, 2) := by decide +kernel
theorem dX6_copy_111 : decode cX6_copy 111 = .ok (.getfield 84, 3) := by decide +kernel
theorem dX6_copy_114 : decode cX6_copy 114 = .ok (.iload 4, 2) := by decide +kernel
theorem dX6_copy_116 : decode cX6_copy 116 = .ok (.iload 5, 2) := by decide +kernel
theorem dX6_copy_118 : decode cX6_copy 118 = .ok (.invokestatic 94, 3) := by decide +kernel
theorem dX6_copy_121 : decode cX6_copy 121 = .ok (.aload_n 0, 1) := by decide +kernel
theorem dX6_copy_122 : decode cX6_copy 122 = .ok (.iconst 0, 1) := by decide +kernel
theorem dX6_copy_123 : decode cX6_copy 123 = .ok (.putfield 72, 3) := by decide +kernel
theorem dX6_copy_126 : decode cX6_copy 126 = .ok (.iload 5, 2) := by decide +kernel
theorem dX6_copy_128 : decode cX6_copy 128 = .ok (.ireturn, 1) := by decide +kernel
theorem dX6_drop_0 : decode cX6_drop 0 = .ok (.iload_n 1, 1) := by decide +kernel
theorem dX6_drop_1 : decode cX6_drop 1 = .ok (.invokestatic 55, 3) := by decide +kernel
theorem dX6_drop_4 : decode cX6_drop 4 = .ok (.ifCond .ne 6, 3) := by decide +kernel
theorem dX6_drop_7 : decode cX6_drop 7 = .ok (.ldc 63, 2) := by decide +kernel
theorem dX6_drop_9 : decode cX6_drop 9 = .ok (.ireturn, 1) := by decide +kernel
theorem dX6_drop_10 : decode cX6_drop 10 = .ok (.aload_n 0, 1) := by decide +kernel
theorem dX6_drop_11 : decode cX6_drop 11 = .ok (.getfield 11, 3) := by decide +kernel
theorem dX6_drop_14 : decode cX6_drop 14 = .ok (.iload_n 1, 1) := by decide +kernel
theorem dX6_drop_15 : decode cX6_drop 15 = .ok (.aaload, 1) := by decide +kernel
theorem dX6_drop_16 : decode cX6_drop 16 = .ok (.astore_n 2, 1) := by decide +kernel
theorem dX6_drop_17 : decode cX6_drop 17 = .ok (.aload_n 2, 1) := by decide +kernel
theorem dX6_drop_18 : decode cX6_drop 18 = .ok (.getfield 76, 3) := by decide +kernel
theorem dX6_drop_21 : decode cX6_drop 21 = .ok (.ifCond .ne 9, 3) := by decide +kernel
theorem dX6_drop_24 : decode cX6_drop 24 = .ok (.aload_n 0, 1) := by decide +kernel
theorem dX6_drop_25 : decode cX6_drop 25 = .ok (.iconst 1, 1) := by decide +kernel
theorem dX6_drop_26 : decode cX6_drop 26 = .ok (.invokevirtual 64, 3) := by decide +kernel
theorem dX6_drop_29 : decode cX6_drop 29 = .ok (.ireturn, 1) := by decide +kernel
theorem dX6_drop_30 : decode cX6_drop 30 = .ok (.aload_n 2, 1) := by decide +kernel
theorem dX6_drop_31 : decode cX6_drop 31 = .ok (.iconst 0, 1) := by decide +kernel
theorem dX6_drop_32 : decode cX6_drop 32 = .ok (.putfield 76, 3) := by decide +kernel
theorem dX6_drop_35 : decode cX6_drop 35 = .ok (.aload_n 0, 1) := by decide +kernel
theorem dX6_drop_36 : decode cX6_drop 36 = .ok (.iconst 0, 1) := by decide +kernel
theorem dX6_drop_37 : decode cX6_drop 37 = .ok (.putfield 72, 3) := by decide +kernel
theorem dX6_drop_40 : decode cX6_drop 40 = .ok (.aload_n 2, 1) := by decide +kernel
theorem dX6_drop_41 : decode cX6_drop 41 = .ok (.getfield 100, 3) := by decide +kernel
theorem dX6_drop_44 : decode cX6_drop 44 = .ok (.ireturn, 1) := by decide +kernel
theorem dX6_feed_0 : decode cX6_feed 0 = .ok (.iload_n 3, 1) := by decide +kernel
theorem dX6_feed_1 : decode cX6_feed 1 = .ok (.iconst 1, 1) := by decide +kernel
theorem dX6_feed_2 : decode cX6_feed 2 = .ok (.bipush 8, 2) := by decide +kernel
theorem dX6_feed_4 : decode cX6_feed 4 = .ok (.invokestatic 59, 3) := by decide +kernel
theorem dX6_feed_7 : decode cX6_feed 7 = .ok (.ifCond .ne 6, 3) := by decide +kernel
theorem dX6_feed_10 : decode cX6_feed 10 = .ok (.ldc 63, 2) := by decide +kernel
theorem dX6_feed_12 : decode cX6_feed 12 = .ok (.ireturn, 1) := by decide +kernel
theorem dX6_feed_13 : decode cX6_feed 13 = .ok (.iload_n 3, 1) := by decide +kernel
theorem dX6_feed_14 : decode cX6_feed 14 = .ok (.sipush 400, 3) := by decide +kernel
theorem dX6_feed_17 : decode cX6_feed 17 = .ok (.aload_n 0, 1) := by decide +kernel
theorem dX6_feed_18 : decode cX6_feed 18 = .ok (.getfield 18, 3) := by decide +kernel
theorem dX6_feed_21 : decode cX6_feed 21 = .ok (.getfield 103, 3) := by decide +kernel
theorem dX6_feed_24 : decode cX6_feed 24 = .ok (.isub, 1) := by decide +kernel
theorem dX6_feed_25 : decode cX6_feed 25 = .ok (.if_icmp .le 6, 3) := by decide +kernel
theorem dX6_feed_28 : decode cX6_feed 28 = .ok (.ldc 104, 2) := by decide +kernel
theorem dX6_feed_30 : decode cX6_feed 30 = .ok (.ireturn, 1) := by decide +kernel
theorem dX6_feed_31 : decode cX6_feed 31 = .ok (.iload_n 3, 1) := by decide +kernel
theorem dX6_feed_32 : decode cX6_feed 32 = .ok (.iconst 1, 1) := by decide +kernel
theorem dX6_feed_33 : decode cX6_feed 33 = .ok (.isub, 1) := by decide +kernel
theorem dX6_feed_34 : decode cX6_feed 34 = .ok (.istore 4, 2) := by decide +kernel
theorem dX6_feed_36 : decode cX6_feed 36 = .ok (.iload 4, 2) := by decide +kernel
theorem dX6_feed_38 : decode cX6_feed 38 = .ok (.ifCond .lt 46, 3) := by decide +kernel
theorem dX6_feed_41 : decode cX6_feed 41 = .ok (.aload_n 0, 1) := by decide +kernel
theorem dX6_feed_42 : decode cX6_feed 42 = .ok (.getfield 18, 3) := by decide +kernel
theorem dX6_feed_45 : decode cX6_feed 45 = .ok (.getfield 105, 3) := by decide +kernel
theorem dX6_feed_48 : decode cX6_feed 48 = .ok (.aload_n 0, 1) := by decide +kernel
theorem dX6_feed_49 : decode cX6_feed 49 = .ok (.getfield 18, 3) := by decide +kernel
theorem dX6_feed_52 : decode cX6_feed 52 = .ok (.getfield 103, 3) := by decide +kernel
theorem dX6_feed_55 : decode cX6_feed 55 = .ok (.lload_n 1, 1) := by decide +kernel
theorem dX6_feed_56 : decode cX6_feed 56 = .ok (.bipush 8, 2) := by decide +kernel
theorem dX6_feed_58 : decode cX6_feed 58 = .ok (.iload 4, 2) := by decide +kernel
theorem dX6_feed_60 : decode cX6_feed 60 = .ok (.imul, 1) := by decide +kernel
theorem dX6_feed_61 : decode cX6_feed 61 = .ok (.lshr, 1) := by decide +kernel
theorem dX6_feed_62 : decode cX6_feed 62 = .ok (.l2i, 1) := by decide +kernel
theorem dX6_feed_63 : decode cX6_feed 63 = .ok (.i2b, 1) := by decide +kernel
theorem dX6_feed_64 : decode cX6_feed 64 = .ok (.bastore, 1) := by decide +kernel
theorem dX6_feed_65 : decode cX6_feed 65 = .ok (.aload_n 0, 1) := by decide +kernel
theorem dX6_feed_66 : decode cX6_feed 66 = .ok (.getfield 18, 3) := by decide +kernel
theorem dX6_feed_69 : decode cX6_feed 69 = .ok (.dup, 1) := by decide +kernel
theorem dX6_feed_70 : decode cX6_feed 70 = .ok (.getfield 103, 3) := by decide +kernel
theorem dX6_feed_73 : decode cX6_feed 73 = .ok (.iconst 1, 1) := by decide +kernel
theorem dX6_feed_74 : decode cX6_feed 74 = .ok (.iadd, 1) := by decide +kernel
theorem dX6_feed_75 : decode cX6_feed 75 = .ok (.putfield 103, 3) := by decide +kernel
theorem dX6_feed_78 : decode cX6_feed 78 = .ok (.iinc 4 (-1), 3) := by decide +kernel
theorem dX6_feed_81 : decode cX6_feed 81 = .ok (.goto (-45), 3) := by decide +kernel
theorem dX6_feed_84 : decode cX6_feed 84 = .ok (.aload_n 0, 1) := by decide +kernel
theorem dX6_feed_85 : decode cX6_feed 85 = .ok (.getfield 18, 3) := by decide +kernel
theorem dX6_feed_88 : decode cX6_feed 88 = .ok (.getfield 103, 3) := by decide +kernel
theorem dX6_feed_91 : decode cX6_feed 91 = .ok (.ireturn, 1) := by decide +kernel
theorem dX6_pass_0 : decode cX6_pass 0 = .ok (.aload_n 0, 1) := by decide +kernel
theorem dX6_pass_1 : decode cX6_pass 1 = .ok (.getfield 18, 3) := by decide +kernel
theorem dX6_pass_4 : decode cX6_pass 4 = .ok (.invokevirtual 109, 3) := by decide +kernel
theorem dX6_pass_7 : decode cX6_pass 7 = .ok (.istore_n 1, 1) := by decide +kernel
theorem dX6_pass_8 : decode cX6_pass 8 = .ok (.aload_n 0, 1) := by decide +kernel
theorem dX6_pass_9 : decode cX6_pass 9 = .ok (.getfield 18, 3) := by decide +kernel
theorem dX6_pass_12 : decode cX6_pass 12 = .ok (.iconst 0, 1) := by decide +kernel
theorem dX6_pass_13 : decode cX6_pass 13 = .ok (.putfield 103, 3) := by decide +kernel
theorem dX6_pass_16 : decode cX6_pass 16 = .ok (.iload_n 1, 1) := by decide +kernel
theorem dX6_pass_17 : decode cX6_pass 17 = .ok (.ifCond .ne 25, 3) := by decide +kernel
theorem dX6_pass_20 : decode cX6_pass 20 = .ok (.aload_n 0, 1) := by decide +kernel
theorem dX6_pass_21 : decode cX6_pass 21 = .ok (.aload_n 0, 1) := by decide +kernel
theorem dX6_pass_22 : decode cX6_pass 22 = .ok (.getfield 18, 3) := by decide +kernel
theorem dX6_pass_25 : decode cX6_pass 25 = .ok (.getfield 113, 3) := by decide +kernel
theorem dX6_pass_28 : decode cX6_pass 28 = .ok (.putfield 116, 3) := by decide +kernel
theorem dX6_pass_31 : decode cX6_pass 31 = .ok (.ldc 117, 2) := by decide +kernel
theorem dX6_pass_33 : decode cX6_pass 33 = .ok (.aload_n 0, 1) := by decide +kernel
theorem dX6_pass_34 : decode cX6_pass 34 = .ok (.getfield 18, 3) := by decide +kernel
theorem dX6_pass_37 : decode cX6_pass 37 = .ok (.getfield 118, 3) := by decide +kernel
theorem dX6_pass_40 : decode cX6_pass 40 = .ok (.isub, 1) := by decide +kernel
theorem dX6_pass_41 : decode cX6_pass 41 = .ok (.ireturn, 1) := by decide +kernel
theorem dX6_pass_42 : decode cX6_pass 42 = .ok (.aload_n 0, 1) := by decide +kernel
theorem dX6_pass_43 : decode cX6_pass 43 = .ok (.getfield 25, 3) := by decide +kernel
theorem dX6_pass_46 : decode cX6_pass 46 = .ok (.aload_n 0, 1) := by decide +kernel
theorem dX6_pass_47 : decode cX6_pass 47 = .ok (.getfield 18, 3) := by decide +kernel
theorem dX6_pass_50 : decode cX6_pass 50 = .ok (.getfield 121, 3) := by decide +kernel
theorem dX6_pass_53 : decode cX6_pass 53 = .ok (.invokevirtual 124, 3) := by decide +kernel
theorem dX6_pass_56 : decode cX6_pass 56 = .ok (.aload_n 0, 1) := by decide +kernel
theorem dX6_pass_57 : decode cX6_pass 57 = .ok (.getfield 36, 3) := by decide +kernel
theorem dX6_pass_60 : decode cX6_pass 60 = .ok (.iconst 0, 1) := by decide +kernel
theorem dX6_pass_61 : decode cX6_pass 61 = .ok (.putfield 128, 3) := by decide +kernel
theorem dX6_pass_64 : decode cX6_pass 64 = .ok (.aload_n 0, 1) := by decide +kernel
theorem dX6_pass_65 : decode cX6_pass 65 = .ok (.getfield 25, 3) := by decide +kernel
theorem dX6_pass_68 : decode cX6_pass 68 = .ok (.getfield 129, 3) := by decide +kernel
theorem dX6_pass_71 : decode cX6_pass 71 = .ok (.ireturn, 1) := by decide +kernel
theorem dX6_fault_0 : decode cX6_fault 0 = .ok (.aload_n 0, 1) := by decide +kernel
theorem dX6_fault_1 : decode cX6_fault 1 = .ok (.getfield 116, 3) := by decide +kernel
theorem dX6_fault_4 : decode cX6_fault 4 = .ok (.ireturn, 1) := by decide +kernel
theorem dX6_hour_0 : decode cX6_hour 0 = .ok (.aload_n 0, 1) := by decide +kernel
theorem dX6_hour_1 : decode cX6_hour 1 = .ok (.getfield 25, 3) := by decide +kernel
theorem dX6_hour_4 : decode cX6_hour 4 = .ok (.getfield 132, 3) := by decide +kernel
theorem dX6_hour_7 : decode cX6_hour 7 = .ok (.ifCond .ne 6, 3) := by decide +kernel
theorem dX6_hour_10 : decode cX6_hour 10 = .ok (.ldc 135, 2) := by decide +kernel
theorem dX6_hour_12 : decode cX6_hour 12 = .ok (.ireturn, 1) := by decide +kernel
theorem dX6_hour_13 : decode cX6_hour 13 = .ok (.aload_n 0, 1) := by decide +kernel
theorem dX6_hour_14 : decode cX6_hour 14 = .ok (.getfield 25, 3) := by decide +kernel
theorem dX6_hour_17 : decode cX6_hour 17 = .ok (.getfield 136, 3) := by decide +kernel
theorem dX6_hour_20 : decode cX6_hour 20 = .ok (.bipush 11, 2) := by decide +kernel
theorem dX6_hour_22 : decode cX6_hour 22 = .ok (.if_icmp .le 6, 3) := by decide +kernel
theorem dX6_hour_25 : decode cX6_hour 25 = .ok (.ldc 104, 2) := by decide +kernel
theorem dX6_hour_27 : decode cX6_hour 27 = .ok (.ireturn, 1) := by decide +kernel
theorem dX6_hour_28 : decode cX6_hour 28 = .ok (.aload_n 0, 1) := by decide +kernel
theorem dX6_hour_29 : decode cX6_hour 29 = .ok (.getfield 36, 3) := by decide +kernel
theorem dX6_hour_32 : decode cX6_hour 32 = .ok (.iconst (-1), 1) := by decide +kernel
theorem dX6_hour_33 : decode cX6_hour 33 = .ok (.iconst 0, 1) := by decide +kernel
theorem dX6_hour_34 : decode cX6_hour 34 = .ok (.invokevirtual 139, 3) := by decide +kernel
theorem dX6_hour_37 : decode cX6_hour 37 = .ok (.aload_n 0, 1) := by decide +kernel
theorem dX6_hour_38 : decode cX6_hour 38 = .ok (.getfield 25, 3) := by decide +kernel
theorem dX6_hour_41 : decode cX6_hour 41 = .ok (.invokevirtual 142, 3) := by decide +kernel
theorem dX6_hour_44 : decode cX6_hour 44 = .ok (.ireturn, 1) := by decide +kernel
theorem dX6_waits_0 : decode cX6_waits 0 = .ok (.aload_n 0, 1) := by decide +kernel
theorem dX6_waits_1 : decode cX6_waits 1 = .ok (.iload_n 1, 1) := by decide +kernel
theorem dX6_waits_2 : decode cX6_waits 2 = .ok (.invokevirtual 146, 3) := by decide +kernel
theorem dX6_waits_5 : decode cX6_waits 5 = .ok (.ifCond .eq 13, 3) := by decide +kernel
theorem dX6_waits_8 : decode cX6_waits 8 = .ok (.iload_n 2, 1) := by decide +kernel
theorem dX6_waits_9 : decode cX6_waits 9 = .ok (.iconst 0, 1) := by decide +kernel
theorem dX6_waits_10 : decode cX6_waits 10 = .ok (.bipush 11, 2) := by decide +kernel
theorem dX6_waits_12 : decode cX6_waits 12 = .ok (.invokestatic 59, 3) := by decide +kernel
theorem dX6_waits_15 : decode cX6_waits 15 = .ok (.ifCond .ne 6, 3) := by decide +kernel
theorem dX6_waits_18 : decode cX6_waits 18 = .ok (.ldc 63, 2) := by decide +kernel
theorem dX6_waits_20 : decode cX6_waits 20 = .ok (.ireturn, 1) := by decide +kernel
theorem dX6_waits_21 : decode cX6_waits 21 = .ok (.aload_n 0, 1) := by decide +kernel
theorem dX6_waits_22 : decode cX6_waits 22 = .ok (.getfield 25, 3) := by decide +kernel
theorem dX6_waits_25 : decode cX6_waits 25 = .ok (.getfield 149, 3) := by decide +kernel
theorem dX6_waits_28 : decode cX6_waits 28 = .ok (.iload_n 1, 1) := by decide +kernel
theorem dX6_waits_29 : decode cX6_waits 29 = .ok (.iaload, 1) := by decide +kernel
theorem dX6_waits_30 : decode cX6_waits 30 = .ok (.ldc 152, 2) := by decide +kernel
theorem dX6_waits_32 : decode cX6_waits 32 = .ok (.if_icmp .eq 6, 3) := by decide +kernel
theorem dX6_waits_35 : decode cX6_waits 35 = .ok (.ldc 135, 2) := by decide +kernel
theorem dX6_waits_37 : decode cX6_waits 37 = .ok (.ireturn, 1) := by decide +kernel
theorem dX6_waits_38 : decode cX6_waits 38 = .ok (.aload_n 0, 1) := by decide +kernel
theorem dX6_waits_39 : decode cX6_waits 39 = .ok (.getfield 25, 3) := by decide +kernel
theorem dX6_waits_42 : decode cX6_waits 42 = .ok (.getfield 153, 3) := by decide +kernel
theorem dX6_waits_45 : decode cX6_waits 45 = .ok (.iload_n 1, 1) := by decide +kernel
theorem dX6_waits_46 : decode cX6_waits 46 = .ok (.iaload, 1) := by decide +kernel
theorem dX6_waits_47 : decode cX6_waits 47 = .ok (.istore_n 3, 1) := by decide +kernel
theorem dX6_waits_48 : decode cX6_waits 48 = .ok (.aload_n 0, 1) := by decide +kernel
theorem dX6_waits_49 : decode cX6_waits 49 = .ok (.getfield 36, 3) := by decide +kernel
theorem dX6_waits_52 : decode cX6_waits 52 = .ok (.iload_n 1, 1) := by decide +kernel
theorem dX6_waits_53 : decode cX6_waits 53 = .ok (.iload_n 3, 1) := by decide +kernel
theorem dX6_waits_54 : decode cX6_waits 54 = .ok (.invokevirtual 139, 3) := by decide +kernel
theorem dX6_waits_57 : decode cX6_waits 57 = .ok (.aload_n 0, 1) := by decide +kernel
theorem dX6_waits_58 : decode cX6_waits 58 = .ok (.getfield 25, 3) := by decide +kernel
theorem dX6_waits_61 : decode cX6_waits 61 = .ok (.getfield 153, 3) := by decide +kernel
theorem dX6_waits_64 : decode cX6_waits 64 = .ok (.iload_n 1, 1) := by decide +kernel
theorem dX6_waits_65 : decode cX6_waits 65 = .ok (.iload_n 2, 1) := by decide +kernel
theorem dX6_waits_66 : decode cX6_waits 66 = .ok (.iastore, 1) := by decide +kernel
theorem dX6_waits_67 : decode cX6_waits 67 = .ok (.iload_n 3, 1) := by decide +kernel
theorem dX6_waits_68 : decode cX6_waits 68 = .ok (.ireturn, 1) := by decide +kernel
theorem dX6_undo_0 : decode cX6_undo 0 = .ok (.aload_n 0, 1) := by decide +kernel
theorem dX6_undo_1 : decode cX6_undo 1 = .ok (.getfield 36, 3) := by decide +kernel
theorem dX6_undo_4 : decode cX6_undo 4 = .ok (.getfield 128, 3) := by decide +kernel
theorem dX6_undo_7 : decode cX6_undo 7 = .ok (.ifCond .ne 6, 3) := by decide +kernel
theorem dX6_undo_10 : decode cX6_undo 10 = .ok (.ldc 135, 2) := by decide +kernel
theorem dX6_undo_12 : decode cX6_undo 12 = .ok (.ireturn, 1) := by decide +kernel
theorem dX6_undo_13 : decode cX6_undo 13 = .ok (.aload_n 0, 1) := by decide +kernel
theorem dX6_undo_14 : decode cX6_undo 14 = .ok (.getfield 36, 3) := by decide +kernel
theorem dX6_undo_17 : decode cX6_undo 17 = .ok (.dup, 1) := by decide +kernel
theorem dX6_undo_18 : decode cX6_undo 18 = .ok (.getfield 128, 3) := by decide +kernel
theorem dX6_undo_21 : decode cX6_undo 21 = .ok (.iconst 1, 1) := by decide +kernel
theorem dX6_undo_22 : decode cX6_undo 22 = .ok (.isub, 1) := by decide +kernel
theorem dX6_undo_23 : decode cX6_undo 23 = .ok (.putfield 128, 3) := by decide +kernel
theorem dX6_undo_26 : decode cX6_undo 26 = .ok (.aload_n 0, 1) := by decide +kernel
theorem dX6_undo_27 : decode cX6_undo 27 = .ok (.getfield 36, 3) := by decide +kernel
theorem dX6_undo_30 : decode cX6_undo 30 = .ok (.getfield 156, 3) := by decide +kernel
theorem dX6_undo_33 : decode cX6_undo 33 = .ok (.aload_n 0, 1) := by decide +kernel
theorem dX6_undo_34 : decode cX6_undo 34 = .ok (.getfield 36, 3) := by decide +kernel
theorem dX6_undo_37 : decode cX6_undo 37 = .ok (.getfield 128, 3) := by decide +kernel
theorem dX6_undo_40 : decode cX6_undo 40 = .ok (.iaload, 1) := by decide +kernel
theorem dX6_undo_41 : decode cX6_undo 41 = .ok (.istore_n 1, 1) := by decide +kernel
theorem dX6_undo_42 : decode cX6_undo 42 = .ok (.aload_n 0, 1) := by decide +kernel
theorem dX6_undo_43 : decode cX6_undo 43 = .ok (.iload_n 1, 1) := by decide +kernel
theorem dX6_undo_44 : decode cX6_undo 44 = .ok (.invokevirtual 146, 3) := by decide +kernel
theorem dX6_undo_47 : decode cX6_undo 47 = .ok (.ifCond .eq 30, 3) := by decide +kernel
theorem dX6_undo_50 : decode cX6_undo 50 = .ok (.aload_n 0, 1) := by decide +kernel
theorem dX6_undo_51 : decode cX6_undo 51 = .ok (.getfield 25, 3) := by decide +kernel
theorem dX6_undo_54 : decode cX6_undo 54 = .ok (.getfield 153, 3) := by decide +kernel
theorem dX6_undo_57 : decode cX6_undo 57 = .ok (.iload_n 1, 1) := by decide +kernel
theorem dX6_undo_58 : decode cX6_undo 58 = .ok (.aload_n 0, 1) := by decide +kernel
theorem dX6_undo_59 : decode cX6_undo 59 = .ok (.getfield 36, 3) := by decide +kernel
theorem dX6_undo_62 : decode cX6_undo 62 = .ok (.getfield 159, 3) := by decide +kernel
theorem dX6_undo_65 : decode cX6_undo 65 = .ok (.aload_n 0, 1) := by decide +kernel
theorem dX6_undo_66 : decode cX6_undo 66 = .ok (.getfield 36, 3) := by decide +kernel
theorem dX6_undo_69 : decode cX6_undo 69 = .ok (.getfield 128, 3) := by decide +kernel
theorem dX6_undo_72 : decode cX6_undo 72 = .ok (.iaload, 1) := by decide +kernel
theorem dX6_undo_73 : decode cX6_undo 73 = .ok (.iastore, 1) := by decide +kernel
theorem dX6_undo_74 : decode cX6_undo 74 = .ok (.goto 10, 3) := by decide +kernel
theorem dX6_undo_77 : decode cX6_undo 77 = .ok (.aload_n 0, 1) := by decide +kernel
theorem dX6_undo_78 : decode cX6_undo 78 = .ok (.getfield 25, 3) := by decide +kernel
theorem dX6_undo_81 : decode cX6_undo 81 = .ok (.invokevirtual 162, 3) := by decide +kernel
theorem dX6_undo_84 : decode cX6_undo 84 = .ok (.aload_n 0, 1) := by decide +kernel
theorem dX6_undo_85 : decode cX6_undo 85 = .ok (.getfield 36, 3) := by decide +kernel
theorem dX6_undo_88 : decode cX6_undo 88 = .ok (.getfield 128, 3) := by decide +kernel
theorem dX6_undo_91 : decode cX6_undo 91 = .ok (.ireturn, 1) := by decide +kernel
theorem dX6_cart_0 : decode cX6_cart 0 = .ok (.aload_n 0, 1) := by decide +kernel
theorem dX6_cart_1 : decode cX6_cart 1 = .ok (.iload_n 1, 1) := by decide +kernel
theorem dX6_cart_2 : decode cX6_cart 2 = .ok (.invokevirtual 146, 3) := by decide +kernel
theorem dX6_cart_5 : decode cX6_cart 5 = .ok (.ifCond .ne 6, 3) := by decide +kernel
theorem dX6_cart_8 : decode cX6_cart 8 = .ok (.ldc 63, 2) := by decide +kernel
theorem dX6_cart_10 : decode cX6_cart 10 = .ok (.ireturn, 1) := by decide +kernel
theorem dX6_cart_11 : decode cX6_cart 11 = .ok (.iload_n 2, 1) := by decide +kernel
theorem dX6_cart_12 : decode cX6_cart 12 = .ok (.tableswitch 99 0 5 #[40, 50, 60, 70, 80, 90], 40) := by decide +kernel
theorem dX6_cart_52 : decode cX6_cart 52 = .ok (.aload_n 0, 1) := by decide +kernel
theorem dX6_cart_53 : decode cX6_cart 53 = .ok (.getfield 25, 3) := by decide +kernel
theorem dX6_cart_56 : decode cX6_cart 56 = .ok (.getfield 165, 3) := by decide +kernel
theorem dX6_cart_59 : decode cX6_cart 59 = .ok (.iload_n 1, 1) := by decide +kernel
theorem dX6_cart_60 : decode cX6_cart 60 = .ok (.iaload, 1) := by decide +kernel
theorem dX6_cart_61 : decode cX6_cart 61 = .ok (.ireturn, 1) := by decide +kernel
theorem dX6_cart_62 : decode cX6_cart 62 = .ok (.aload_n 0, 1) := by decide +kernel
theorem dX6_cart_63 : decode cX6_cart 63 = .ok (.getfield 25, 3) := by decide +kernel
theorem dX6_cart_66 : decode cX6_cart 66 = .ok (.getfield 168, 3) := by decide +kernel
theorem dX6_cart_69 : decode cX6_cart 69 = .ok (.iload_n 1, 1) := by decide +kernel
theorem dX6_cart_70 : decode cX6_cart 70 = .ok (.iaload, 1) := by decide +kernel
theorem dX6_cart_71 : decode cX6_cart 71 = .ok (.ireturn, 1) := by decide +kernel
theorem dX6_cart_72 : decode cX6_cart 72 = .ok (.aload_n 0, 1) := by decide +kernel
theorem dX6_cart_73 : decode cX6_cart 73 = .ok (.getfield 25, 3) := by decide +kernel
theorem dX6_cart_76 : decode cX6_cart 76 = .ok (.getfield 153, 3) := by decide +kernel
theorem dX6_cart_79 : decode cX6_cart 79 = .ok (.iload_n 1, 1) := by decide +kernel
theorem dX6_cart_80 : decode cX6_cart 80 = .ok (.iaload, 1) := by decide +kernel
theorem dX6_cart_81 : decode cX6_cart 81 = .ok (.ireturn, 1) := by decide +kernel
theorem dX6_cart_82 : decode cX6_cart 82 = .ok (.aload_n 0, 1) := by decide +kernel
theorem dX6_cart_83 : decode cX6_cart 83 = .ok (.getfield 25, 3) := by decide +kernel
theorem dX6_cart_86 : decode cX6_cart 86 = .ok (.getfield 149, 3) := by decide +kernel
theorem dX6_cart_89 : decode cX6_cart 89 = .ok (.iload_n 1, 1) := by decide +kernel
theorem dX6_cart_90 : decode cX6_cart 90 = .ok (.iaload, 1) := by decide +kernel
theorem dX6_cart_91 : decode cX6_cart 91 = .ok (.ireturn, 1) := by decide +kernel
theorem dX6_cart_92 : decode cX6_cart 92 = .ok (.aload_n 0, 1) := by decide +kernel
theorem dX6_cart_93 : decode cX6_cart 93 = .ok (.getfield 25, 3) := by decide +kernel
theorem dX6_cart_96 : decode cX6_cart 96 = .ok (.getfield 171, 3) := by decide +kernel
theorem dX6_cart_99 : decode cX6_cart 99 = .ok (.iload_n 1, 1) := by decide +kernel
theorem dX6_cart_100 : decode cX6_cart 100 = .ok (.iaload, 1) := by decide +kernel
theorem dX6_cart_101 : decode cX6_cart 101 = .ok (.ireturn, 1) := by decide +kernel
theorem dX6_cart_102 : decode cX6_cart 102 = .ok (.aload_n 0, 1) := by decide +kernel
theorem dX6_cart_103 : decode cX6_cart 103 = .ok (.getfield 25, 3) := by decide +kernel
theorem dX6_cart_106 : decode cX6_cart 106 = .ok (.iload_n 1, 1) := by decide +kernel
theorem dX6_cart_107 : decode cX6_cart 107 = .ok (.invokevirtual 174, 3) := by decide +kernel
theorem dX6_cart_110 : decode cX6_cart 110 = .ok (.ireturn, 1) := by decide +kernel
theorem dX6_cart_111 : decode cX6_cart 111 = .ok (.ldc 63, 2) := by decide +kernel
theorem dX6_cart_113 : decode cX6_cart 113 = .ok (.ireturn, 1) := by decide +kernel
theorem dX6_day_0 : decode cX6_day 0 = .ok (.aload_n 0, 1) := by decide +kernel
theorem dX6_day_1 : decode cX6_day 1 = .ok (.iload_n 1, 1) := by decide +kernel
theorem dX6_day_2 : decode cX6_day 2 = .ok (.invokevirtual 146, 3) := by decide +kernel
theorem dX6_day_5 : decode cX6_day 5 = .ok (.ifCond .eq 12, 3) := by decide +kernel
theorem dX6_day_8 : decode cX6_day 8 = .ok (.iload_n 2, 1) := by decide +kernel
theorem dX6_day_9 : decode cX6_day 9 = .ok (.iconst 0, 1) := by decide +kernel
theorem dX6_day_10 : decode cX6_day 10 = .ok (.iconst 2, 1) := by decide +kernel
theorem dX6_day_11 : decode cX6_day 11 = .ok (.invokestatic 59, 3) := by decide +kernel
theorem dX6_day_14 : decode cX6_day 14 = .ok (.ifCond .ne 6, 3) := by decide +kernel
theorem dX6_day_17 : decode cX6_day 17 = .ok (.ldc 63, 2) := by decide +kernel
theorem dX6_day_19 : decode cX6_day 19 = .ok (.ireturn, 1) := by decide +kernel
theorem dX6_day_20 : decode cX6_day 20 = .ok (.aload_n 0, 1) := by decide +kernel
theorem dX6_day_21 : decode cX6_day 21 = .ok (.getfield 43, 3) := by decide +kernel
theorem dX6_day_24 : decode cX6_day 24 = .ok (.aload_n 0, 1) := by decide +kernel
theorem dX6_day_25 : decode cX6_day 25 = .ok (.getfield 25, 3) := by decide +kernel
theorem dX6_day_28 : decode cX6_day 28 = .ok (.invokevirtual 177, 3) := by decide +kernel
theorem dX6_day_31 : decode cX6_day 31 = .ok (.astore_n 3, 1) := by decide +kernel
theorem dX6_day_32 : decode cX6_day 32 = .ok (.iload_n 2, 1) := by decide +kernel
theorem dX6_day_33 : decode cX6_day 33 = .ok (.ifCond .ne 10, 3) := by decide +kernel
theorem dX6_day_36 : decode cX6_day 36 = .ok (.aload_n 3, 1) := by decide +kernel
theorem dX6_day_37 : decode cX6_day 37 = .ok (.getfield 149, 3) := by decide +kernel
theorem dX6_day_40 : decode cX6_day 40 = .ok (.iload_n 1, 1) := by decide +kernel
theorem dX6_day_41 : decode cX6_day 41 = .ok (.iaload, 1) := by decide +kernel
theorem dX6_day_42 : decode cX6_day 42 = .ok (.ireturn, 1) := by decide +kernel
theorem dX6_day_43 : decode cX6_day 43 = .ok (.iload_n 2, 1) := by decide +kernel
theorem dX6_day_44 : decode cX6_day 44 = .ok (.iconst 1, 1) := by decide +kernel
theorem dX6_day_45 : decode cX6_day 45 = .ok (.if_icmp .ne 11, 3) := by decide +kernel
theorem dX6_day_48 : decode cX6_day 48 = .ok (.aload_n 3, 1) := by decide +kernel
theorem dX6_day_49 : decode cX6_day 49 = .ok (.iload_n 1, 1) := by decide +kernel
theorem dX6_day_50 : decode cX6_day 50 = .ok (.invokevirtual 174, 3) := by decide +kernel
theorem dX6_day_53 : decode cX6_day 53 = .ok (.goto 9, 3) := by decide +kernel
theorem dX6_day_56 : decode cX6_day 56 = .ok (.aload_n 3, 1) := by decide +kernel
theorem dX6_day_57 : decode cX6_day 57 = .ok (.getfield 171, 3) := by decide +kernel
theorem dX6_day_60 : decode cX6_day 60 = .ok (.iload_n 1, 1) := by decide +kernel
theorem dX6_day_61 : decode cX6_day 61 = .ok (.iaload, 1) := by decide +kernel
theorem dX6_day_62 : decode cX6_day 62 = .ok (.ireturn, 1) := by decide +kernel
theorem dX6_judge_0 : decode cX6_judge 0 = .ok (.aload_n 0, 1) := by decide +kernel
theorem dX6_judge_1 : decode cX6_judge 1 = .ok (.getfield 25, 3) := by decide +kernel
theorem dX6_judge_4 : decode cX6_judge 4 = .ok (.getfield 132, 3) := by decide +kernel
theorem dX6_judge_7 : decode cX6_judge 7 = .ok (.ifCond .ne 6, 3) := by decide +kernel
theorem dX6_judge_10 : decode cX6_judge 10 = .ok (.ldc 135, 2) := by decide +kernel
theorem dX6_judge_12 : decode cX6_judge 12 = .ok (.ireturn, 1) := by decide +kernel
theorem dX6_judge_13 : decode cX6_judge 13 = .ok (.iload_n 1, 1) := by decide +kernel
theorem dX6_judge_14 : decode cX6_judge 14 = .ok (.invokestatic 55, 3) := by decide +kernel
theorem dX6_judge_17 : decode cX6_judge 17 = .ok (.ifCond .ne 6, 3) := by decide +kernel
theorem dX6_judge_20 : decode cX6_judge 20 = .ok (.ldc 63, 2) := by decide +kernel
theorem dX6_judge_22 : decode cX6_judge 22 = .ok (.ireturn, 1) := by decide +kernel
theorem dX6_judge_23 : decode cX6_judge 23 = .ok (.aload_n 0, 1) := by decide +kernel
theorem dX6_judge_24 : decode cX6_judge 24 = .ok (.getfield 11, 3) := by decide +kernel
theorem dX6_judge_27 : decode cX6_judge 27 = .ok (.iload_n 1, 1) := by decide +kernel
theorem dX6_judge_28 : decode cX6_judge 28 = .ok (.aaload, 1) := by decide +kernel
theorem dX6_judge_29 : decode cX6_judge 29 = .ok (.astore_n 3, 1) := by decide +kernel
theorem dX6_judge_30 : decode cX6_judge 30 = .ok (.aload_n 3, 1) := by decide +kernel
theorem dX6_judge_31 : decode cX6_judge 31 = .ok (.getfield 76, 3) := by decide +kernel
theorem dX6_judge_34 : decode cX6_judge 34 = .ok (.ifCond .ne 9, 3) := by decide +kernel
theorem dX6_judge_37 : decode cX6_judge 37 = .ok (.aload_n 0, 1) := by decide +kernel
theorem dX6_judge_38 : decode cX6_judge 38 = .ok (.iconst 1, 1) := by decide +kernel
theorem dX6_judge_39 : decode cX6_judge 39 = .ok (.invokevirtual 64, 3) := by decide +kernel
theorem dX6_judge_42 : decode cX6_judge 42 = .ok (.ireturn, 1) := by decide +kernel
theorem dX6_judge_43 : decode cX6_judge 43 = .ok (.aload_n 3, 1) := by decide +kernel
theorem dX6_judge_44 : decode cX6_judge 44 = .ok (.iload_n 2, 1) := by decide +kernel
theorem dX6_judge_45 : decode cX6_judge 45 = .ok (.bipush 12, 2) := by decide +kernel
theorem dX6_judge_47 : decode cX6_judge 47 = .ok (.invokevirtual 80, 3) := by decide +kernel
theorem dX6_judge_50 : decode cX6_judge 50 = .ok (.ifCond .ne 9, 3) := by decide +kernel
theorem dX6_judge_53 : decode cX6_judge 53 = .ok (.aload_n 0, 1) := by decide +kernel
theorem dX6_judge_54 : decode cX6_judge 54 = .ok (.iconst 2, 1) := by decide +kernel
theorem dX6_judge_55 : decode cX6_judge 55 = .ok (.invokevirtual 64, 3) := by decide +kernel
theorem dX6_judge_58 : decode cX6_judge 58 = .ok (.ireturn, 1) := by decide +kernel
theorem dX6_judge_59 : decode cX6_judge 59 = .ok (.iconst 0, 1) := by decide +kernel
theorem dX6_judge_60 : decode cX6_judge 60 = .ok (.istore 4, 2) := by decide +kernel
theorem dX6_judge_62 : decode cX6_judge 62 = .ok (.iload 4, 2) := by decide +kernel
theorem dX6_judge_64 : decode cX6_judge 64 = .ok (.bipush 12, 2) := by decide +kernel
theorem dX6_judge_66 : decode cX6_judge 66 = .ok (.if_icmp .ge 41, 3) := by decide +kernel
theorem dX6_judge_69 : decode cX6_judge 69 = .ok (.aload_n 3, 1) := by decide +kernel
theorem dX6_judge_70 : decode cX6_judge 70 = .ok (.getfield 84, 3) := by decide +kernel
theorem dX6_judge_73 : decode cX6_judge 73 = .ok (.iload_n 2, 1) := by decide +kernel
theorem dX6_judge_74 : decode cX6_judge 74 = .ok (.iload 4, 2) := by decide +kernel
theorem dX6_judge_76 : decode cX6_judge 76 = .ok (.iadd, 1) := by decide +kernel
theorem dX6_judge_77 : decode cX6_judge 77 = .ok (.iaload, 1) := by decide +kernel
theorem dX6_judge_78 : decode cX6_judge 78 = .ok (.iconst (-1), 1) := by decide +kernel
theorem dX6_judge_79 : decode cX6_judge 79 = .ok (.if_icmp .eq 22, 3) := by decide +kernel
theorem dX6_judge_82 : decode cX6_judge 82 = .ok (.aload_n 0, 1) := by decide +kernel
theorem dX6_judge_83 : decode cX6_judge 83 = .ok (.aload_n 3, 1) := by decide +kernel
theorem dX6_judge_84 : decode cX6_judge 84 = .ok (.getfield 84, 3) := by decide +kernel
theorem dX6_judge_87 : decode cX6_judge 87 = .ok (.iload_n 2, 1) := by decide +kernel
theorem dX6_judge_88 : decode cX6_judge 88 = .ok (.iload 4, 2) := by decide +kernel
theorem dX6_judge_90 : decode cX6_judge 90 = .ok (.iadd, 1) := by decide +kernel
theorem dX6_judge_91 : decode cX6_judge 91 = .ok (.iaload, 1) := by decide +kernel
theorem dX6_judge_92 : decode cX6_judge 92 = .ok (.invokevirtual 146, 3) := by decide +kernel
theorem dX6_judge_95 : decode cX6_judge 95 = .ok (.ifCond .ne 6, 3) := by decide +kernel
theorem dX6_judge_98 : decode cX6_judge 98 = .ok (.ldc 63, 2) := by decide +kernel
theorem dX6_judge_100 : decode cX6_judge 100 = .ok (.ireturn, 1) := by decide +kernel
theorem dX6_judge_101 : decode cX6_judge 101 = .ok (.iinc 4 1, 3) := by decide +kernel
theorem dX6_judge_104 : decode cX6_judge 104 = .ok (.goto (-42), 3) := by decide +kernel
theorem dX6_judge_107 : decode cX6_judge 107 = .ok (.aload_n 0, 1) := by decide +kernel
theorem dX6_judge_108 : decode cX6_judge 108 = .ok (.iconst 0, 1) := by decide +kernel
theorem dX6_judge_109 : decode cX6_judge 109 = .ok (.putfield 72, 3) := by decide +kernel
theorem dX6_judge_112 : decode cX6_judge 112 = .ok (.aload_n 0, 1) := by decide +kernel
theorem dX6_judge_113 : decode cX6_judge 113 = .ok (.getfield 43, 3) := by decide +kernel
theorem dX6_judge_116 : decode cX6_judge 116 = .ok (.aload_n 0, 1) := by decide +kernel
theorem dX6_judge_117 : decode cX6_judge 117 = .ok (.getfield 25, 3) := by decide +kernel
theorem dX6_judge_120 : decode cX6_judge 120 = .ok (.invokevirtual 177, 3) := by decide +kernel
theorem dX6_judge_123 : decode cX6_judge 123 = .ok (.astore 4, 2) := by decide +kernel
theorem dX6_judge_125 : decode cX6_judge 125 = .ok (.iconst 0, 1) := by decide +kernel
theorem dX6_judge_126 : decode cX6_judge 126 = .ok (.istore 5, 2) := by decide +kernel
theorem dX6_judge_128 : decode cX6_judge 128 = .ok (.iload 5, 2) := by decide +kernel
theorem dX6_judge_130 : decode cX6_judge 130 = .ok (.bipush 12, 2) := by decide +kernel
theorem dX6_judge_132 : decode cX6_judge 132 = .ok (.if_icmp .ge 32, 3) := by decide +kernel
theorem dX6_judge_135 : decode cX6_judge 135 = .ok (.aload_n 3, 1) := by decide +kernel
theorem dX6_judge_136 : decode cX6_judge 136 = .ok (.getfield 84, 3) := by decide +kernel
theorem dX6_judge_139 : decode cX6_judge 139 = .ok (.iload_n 2, 1) := by decide +kernel
theorem dX6_judge_140 : decode cX6_judge 140 = .ok (.iload 5, 2) := by decide +kernel
theorem dX6_judge_142 : decode cX6_judge 142 = .ok (.iadd, 1) := by decide +kernel
theorem dX6_judge_143 : decode cX6_judge 143 = .ok (.iaload, 1) := by decide +kernel
theorem dX6_judge_144 : decode cX6_judge 144 = .ok (.aload 4, 2) := by decide +kernel
theorem dX6_judge_146 : decode cX6_judge 146 = .ok (.getfield 181, 3) := by decide +kernel
theorem dX6_judge_149 : decode cX6_judge 149 = .ok (.iload 5, 2) := by decide +kernel
theorem dX6_judge_151 : decode cX6_judge 151 = .ok (.iaload, 1) := by decide +kernel
theorem dX6_judge_152 : decode cX6_judge 152 = .ok (.if_icmp .eq 6, 3) := by decide +kernel
theorem dX6_judge_155 : decode cX6_judge 155 = .ok (.iload 5, 2) := by decide +kernel
theorem dX6_judge_157 : decode cX6_judge 157 = .ok (.ireturn, 1) := by decide +kernel
theorem dX6_judge_158 : decode cX6_judge 158 = .ok (.iinc 5 1, 3) := by decide +kernel
theorem dX6_judge_161 : decode cX6_judge 161 = .ok (.goto (-33), 3) := by decide +kernel
theorem dX6_judge_164 : decode cX6_judge 164 = .ok (.ldc 152, 2) := by decide +kernel
theorem dX6_judge_166 : decode cX6_judge 166 = .ok (.ireturn, 1) := by decide +kernel
theorem dX6_best_0 : decode cX6_best 0 = .ok (.aload_n 0, 1) := by decide +kernel
theorem dX6_best_1 : decode cX6_best 1 = .ok (.iload_n 1, 1) := by decide +kernel
theorem dX6_best_2 : decode cX6_best 2 = .ok (.invokevirtual 146, 3) := by decide +kernel
theorem dX6_best_5 : decode cX6_best 5 = .ok (.ifCond .eq 12, 3) := by decide +kernel
theorem dX6_best_8 : decode cX6_best 8 = .ok (.iload_n 2, 1) := by decide +kernel
theorem dX6_best_9 : decode cX6_best 9 = .ok (.iconst 0, 1) := by decide +kernel
theorem dX6_best_10 : decode cX6_best 10 = .ok (.iconst 1, 1) := by decide +kernel
theorem dX6_best_11 : decode cX6_best 11 = .ok (.invokestatic 59, 3) := by decide +kernel
theorem dX6_best_14 : decode cX6_best 14 = .ok (.ifCond .ne 6, 3) := by decide +kernel
theorem dX6_best_17 : decode cX6_best 17 = .ok (.ldc 63, 2) := by decide +kernel
theorem dX6_best_19 : decode cX6_best 19 = .ok (.ireturn, 1) := by decide +kernel
theorem dX6_best_20 : decode cX6_best 20 = .ok (.aload_n 0, 1) := by decide +kernel
theorem dX6_best_21 : decode cX6_best 21 = .ok (.getfield 43, 3) := by decide +kernel
theorem dX6_best_24 : decode cX6_best 24 = .ok (.aload_n 0, 1) := by decide +kernel
theorem dX6_best_25 : decode cX6_best 25 = .ok (.getfield 25, 3) := by decide +kernel
theorem dX6_best_28 : decode cX6_best 28 = .ok (.iload_n 1, 1) := by decide +kernel
theorem dX6_best_29 : decode cX6_best 29 = .ok (.invokevirtual 184, 3) := by decide +kernel
theorem dX6_best_32 : decode cX6_best 32 = .ok (.astore_n 3, 1) := by decide +kernel
theorem dX6_best_33 : decode cX6_best 33 = .ok (.iload_n 2, 1) := by decide +kernel
theorem dX6_best_34 : decode cX6_best 34 = .ok (.ifCond .ne 12, 3) := by decide +kernel
theorem dX6_best_37 : decode cX6_best 37 = .ok (.aload_n 3, 1) := by decide +kernel
theorem dX6_best_38 : decode cX6_best 38 = .ok (.getfield 153, 3) := by decide +kernel
theorem dX6_best_41 : decode cX6_best 41 = .ok (.iload_n 1, 1) := by decide +kernel
theorem dX6_best_42 : decode cX6_best 42 = .ok (.iaload, 1) := by decide +kernel
theorem dX6_best_43 : decode cX6_best 43 = .ok (.goto 8, 3) := by decide +kernel
theorem dX6_best_46 : decode cX6_best 46 = .ok (.aload_n 3, 1) := by decide +kernel
theorem dX6_best_47 : decode cX6_best 47 = .ok (.iload_n 1, 1) := by decide +kernel
theorem dX6_best_48 : decode cX6_best 48 = .ok (.invokevirtual 174, 3) := by decide +kernel
theorem dX6_best_51 : decode cX6_best 51 = .ok (.ireturn, 1) := by decide +kernel
theorem dX6_rest_0 : decode cX6_rest 0 = .ok (.aload_n 0, 1) := by decide +kernel
theorem dX6_rest_1 : decode cX6_rest 1 = .ok (.getfield 25, 3) := by decide +kernel
theorem dX6_rest_4 : decode cX6_rest 4 = .ok (.getfield 132, 3) := by decide +kernel
theorem dX6_rest_7 : decode cX6_rest 7 = .ok (.ifCond .ne 6, 3) := by decide +kernel
theorem dX6_rest_10 : decode cX6_rest 10 = .ok (.ldc 135, 2) := by decide +kernel
theorem dX6_rest_12 : decode cX6_rest 12 = .ok (.ireturn, 1) := by decide +kernel
theorem dX6_rest_13 : decode cX6_rest 13 = .ok (.iload_n 1, 1) := by decide +kernel
theorem dX6_rest_14 : decode cX6_rest 14 = .ok (.iconst (-1), 1) := by decide +kernel
theorem dX6_rest_15 : decode cX6_rest 15 = .ok (.if_icmp .eq 14, 3) := by decide +kernel
theorem dX6_rest_18 : decode cX6_rest 18 = .ok (.aload_n 0, 1) := by decide +kernel
theorem dX6_rest_19 : decode cX6_rest 19 = .ok (.iload_n 1, 1) := by decide +kernel
theorem dX6_rest_20 : decode cX6_rest 20 = .ok (.invokevirtual 146, 3) := by decide +kernel
theorem dX6_rest_23 : decode cX6_rest 23 = .ok (.ifCond .ne 6, 3) := by decide +kernel
theorem dX6_rest_26 : decode cX6_rest 26 = .ok (.ldc 63, 2) := by decide +kernel
theorem dX6_rest_28 : decode cX6_rest 28 = .ok (.ireturn, 1) := by decide +kernel
theorem dX6_rest_29 : decode cX6_rest 29 = .ok (.aload_n 0, 1) := by decide +kernel
theorem dX6_rest_30 : decode cX6_rest 30 = .ok (.getfield 43, 3) := by decide +kernel
theorem dX6_rest_33 : decode cX6_rest 33 = .ok (.aload_n 0, 1) := by decide +kernel
theorem dX6_rest_34 : decode cX6_rest 34 = .ok (.getfield 25, 3) := by decide +kernel
theorem dX6_rest_37 : decode cX6_rest 37 = .ok (.invokevirtual 188, 3) := by decide +kernel
theorem dX6_rest_40 : decode cX6_rest 40 = .ok (.istore_n 2, 1) := by decide +kernel
theorem dX6_rest_41 : decode cX6_rest 41 = .ok (.iload_n 1, 1) := by decide +kernel
theorem dX6_rest_42 : decode cX6_rest 42 = .ok (.iconst (-1), 1) := by decide +kernel
theorem dX6_rest_43 : decode cX6_rest 43 = .ok (.if_icmp .ne 7, 3) := by decide +kernel
theorem dX6_rest_46 : decode cX6_rest 46 = .ok (.iload_n 2, 1) := by decide +kernel
theorem dX6_rest_47 : decode cX6_rest 47 = .ok (.goto 15, 3) := by decide +kernel
theorem dX6_rest_50 : decode cX6_rest 50 = .ok (.aload_n 0, 1) := by decide +kernel
theorem dX6_rest_51 : decode cX6_rest 51 = .ok (.getfield 43, 3) := by decide +kernel
theorem dX6_rest_54 : decode cX6_rest 54 = .ok (.getfield 192, 3) := by decide +kernel
theorem dX6_rest_57 : decode cX6_rest 57 = .ok (.getfield 153, 3) := by decide +kernel
theorem dX6_rest_60 : decode cX6_rest 60 = .ok (.iload_n 1, 1) := by decide +kernel
theorem dX6_rest_61 : decode cX6_rest 61 = .ok (.iaload, 1) := by decide +kernel
theorem dX6_rest_62 : decode cX6_rest 62 = .ok (.ireturn, 1) := by decide +kernel
theorem dX6_thought_0 : decode cX6_thought 0 = .ok (.aload_n 0, 1) := by decide +kernel
theorem dX6_thought_1 : decode cX6_thought 1 = .ok (.iload_n 1, 1) := by decide +kernel
theorem dX6_thought_2 : decode cX6_thought 2 = .ok (.invokevirtual 146, 3) := by decide +kernel
theorem dX6_thought_5 : decode cX6_thought 5 = .ok (.ifCond .eq 10, 3) := by decide +kernel
theorem dX6_thought_8 : decode cX6_thought 8 = .ok (.iload_n 2, 1) := by decide +kernel
theorem dX6_thought_9 : decode cX6_thought 9 = .ok (.invokestatic 195, 3) := by decide +kernel
theorem dX6_thought_12 : decode cX6_thought 12 = .ok (.ifCond .ne 6, 3) := by decide +kernel
theorem dX6_thought_15 : decode cX6_thought 15 = .ok (.ldc 63, 2) := by decide +kernel
theorem dX6_thought_17 : decode cX6_thought 17 = .ok (.ireturn, 1) := by decide +kernel
theorem dX6_thought_18 : decode cX6_thought 18 = .ok (.aload_n 0, 1) := by decide +kernel
theorem dX6_thought_19 : decode cX6_thought 19 = .ok (.getfield 43, 3) := by decide +kernel
theorem dX6_thought_22 : decode cX6_thought 22 = .ok (.aload_n 0, 1) := by decide +kernel
theorem dX6_thought_23 : decode cX6_thought 23 = .ok (.getfield 25, 3) := by decide +kernel
theorem dX6_thought_26 : decode cX6_thought 26 = .ok (.iload_n 1, 1) := by decide +kernel
theorem dX6_thought_27 : decode cX6_thought 27 = .ok (.iload_n 2, 1) := by decide +kernel
theorem dX6_thought_28 : decode cX6_thought 28 = .ok (.invokevirtual 198, 3) := by decide +kernel
theorem dX6_thought_31 : decode cX6_thought 31 = .ok (.ireturn, 1) := by decide +kernel
theorem dX6_two_0 : decode cX6_two 0 = .ok (.aload_n 0, 1) := by decide +kernel
theorem dX6_two_1 : decode cX6_two 1 = .ok (.iload_n 1, 1) := by decide +kernel
theorem dX6_two_2 : decode cX6_two 2 = .ok (.invokevirtual 146, 3) := by decide +kernel
theorem dX6_two_5 : decode cX6_two 5 = .ok (.ifCond .eq 33, 3) := by decide +kernel
theorem dX6_two_8 : decode cX6_two 8 = .ok (.aload_n 0, 1) := by decide +kernel
theorem dX6_two_9 : decode cX6_two 9 = .ok (.iload_n 2, 1) := by decide +kernel
theorem dX6_two_10 : decode cX6_two 10 = .ok (.invokevirtual 146, 3) := by decide +kernel
theorem dX6_two_13 : decode cX6_two 13 = .ok (.ifCond .eq 25, 3) := by decide +kernel
theorem dX6_two_16 : decode cX6_two 16 = .ok (.iload_n 1, 1) := by decide +kernel
theorem dX6_two_17 : decode cX6_two 17 = .ok (.iload_n 2, 1) := by decide +kernel
theorem dX6_two_18 : decode cX6_two 18 = .ok (.if_icmp .eq 20, 3) := by decide +kernel
theorem dX6_two_21 : decode cX6_two 21 = .ok (.iload_n 3, 1) := by decide +kernel
theorem dX6_two_22 : decode cX6_two 22 = .ok (.invokestatic 195, 3) := by decide +kernel
theorem dX6_two_25 : decode cX6_two 25 = .ok (.ifCond .eq 13, 3) := by decide +kernel
theorem dX6_two_28 : decode cX6_two 28 = .ok (.iload 4, 2) := by decide +kernel
theorem dX6_two_30 : decode cX6_two 30 = .ok (.iconst 0, 1) := by decide +kernel
theorem dX6_two_31 : decode cX6_two 31 = .ok (.iconst 1, 1) := by decide +kernel
theorem dX6_two_32 : decode cX6_two 32 = .ok (.invokestatic 59, 3) := by decide +kernel
theorem dX6_two_35 : decode cX6_two 35 = .ok (.ifCond .ne 6, 3) := by decide +kernel
theorem dX6_two_38 : decode cX6_two 38 = .ok (.ldc 63, 2) := by decide +kernel
theorem dX6_two_40 : decode cX6_two 40 = .ok (.ireturn, 1) := by decide +kernel
theorem dX6_two_41 : decode cX6_two 41 = .ok (.aload_n 0, 1) := by decide +kernel
theorem dX6_two_42 : decode cX6_two 42 = .ok (.getfield 43, 3) := by decide +kernel
theorem dX6_two_45 : decode cX6_two 45 = .ok (.aload_n 0, 1) := by decide +kernel
theorem dX6_two_46 : decode cX6_two 46 = .ok (.getfield 25, 3) := by decide +kernel
theorem dX6_two_49 : decode cX6_two 49 = .ok (.iload_n 1, 1) := by decide +kernel
theorem dX6_two_50 : decode cX6_two 50 = .ok (.iload_n 2, 1) := by decide +kernel
theorem dX6_two_51 : decode cX6_two 51 = .ok (.iload_n 3, 1) := by decide +kernel
theorem dX6_two_52 : decode cX6_two 52 = .ok (.iload 4, 2) := by decide +kernel
theorem dX6_two_54 : decode cX6_two 54 = .ok (.iconst 1, 1) := by decide +kernel
theorem dX6_two_55 : decode cX6_two 55 = .ok (.if_icmp .ne 7, 3) := by decide +kernel
theorem dX6_two_58 : decode cX6_two 58 = .ok (.iconst 1, 1) := by decide +kernel
theorem dX6_two_59 : decode cX6_two 59 = .ok (.goto 4, 3) := by decide +kernel
theorem dX6_two_62 : decode cX6_two 62 = .ok (.iconst 0, 1) := by decide +kernel
theorem dX6_two_63 : decode cX6_two 63 = .ok (.invokevirtual 202, 3) := by decide +kernel
theorem dX6_two_66 : decode cX6_two 66 = .ok (.ireturn, 1) := by decide +kernel
theorem dX6_shares_0 : decode cX6_shares 0 = .ok (.aload_n 0, 1) := by decide +kernel
theorem dX6_shares_1 : decode cX6_shares 1 = .ok (.getfield 25, 3) := by decide +kernel
theorem dX6_shares_4 : decode cX6_shares 4 = .ok (.getfield 132, 3) := by decide +kernel
theorem dX6_shares_7 : decode cX6_shares 7 = .ok (.ifCond .ne 6, 3) := by decide +kernel
theorem dX6_shares_10 : decode cX6_shares 10 = .ok (.ldc 135, 2) := by decide +kernel
theorem dX6_shares_12 : decode cX6_shares 12 = .ok (.ireturn, 1) := by decide +kernel
theorem dX6_shares_13 : decode cX6_shares 13 = .ok (.iload_n 1, 1) := by decide +kernel
theorem dX6_shares_14 : decode cX6_shares 14 = .ok (.iconst 1, 1) := by decide +kernel
theorem dX6_shares_15 : decode cX6_shares 15 = .ok (.bipush 6, 2) := by decide +kernel
theorem dX6_shares_17 : decode cX6_shares 17 = .ok (.invokestatic 59, 3) := by decide +kernel
theorem dX6_shares_20 : decode cX6_shares 20 = .ok (.ifCond .eq 8, 3) := by decide +kernel
theorem dX6_shares_23 : decode cX6_shares 23 = .ok (.iload_n 2, 1) := by decide +kernel
theorem dX6_shares_24 : decode cX6_shares 24 = .ok (.iconst (-1), 1) := by decide +kernel
theorem dX6_shares_25 : decode cX6_shares 25 = .ok (.if_icmp .ge 6, 3) := by decide +kernel
theorem dX6_shares_28 : decode cX6_shares 28 = .ok (.ldc 63, 2) := by decide +kernel
theorem dX6_shares_30 : decode cX6_shares 30 = .ok (.ireturn, 1) := by decide +kernel
theorem dX6_shares_31 : decode cX6_shares 31 = .ok (.iload_n 2, 1) := by decide +kernel
theorem dX6_shares_32 : decode cX6_shares 32 = .ok (.iconst (-1), 1) := by decide +kernel
theorem dX6_shares_33 : decode cX6_shares 33 = .ok (.if_icmp .ne 20, 3) := by decide +kernel
theorem dX6_shares_36 : decode cX6_shares 36 = .ok (.aload_n 0, 1) := by decide +kernel
theorem dX6_shares_37 : decode cX6_shares 37 = .ok (.getfield 25, 3) := by decide +kernel
theorem dX6_shares_40 : decode cX6_shares 40 = .ok (.iload_n 1, 1) := by decide +kernel
theorem dX6_shares_41 : decode cX6_shares 41 = .ok (.invokevirtual 206, 3) := by decide +kernel
theorem dX6_shares_44 : decode cX6_shares 44 = .ok (.ifCond .eq 7, 3) := by decide +kernel
theorem dX6_shares_47 : decode cX6_shares 47 = .ok (.iconst 1, 1) := by decide +kernel
theorem dX6_shares_48 : decode cX6_shares 48 = .ok (.goto 4, 3) := by decide +kernel
theorem dX6_shares_51 : decode cX6_shares 51 = .ok (.iconst 0, 1) := by decide +kernel
theorem dX6_shares_52 : decode cX6_shares 52 = .ok (.ireturn, 1) := by decide +kernel
theorem dX6_shares_53 : decode cX6_shares 53 = .ok (.iload_n 2, 1) := by decide +kernel
theorem dX6_shares_54 : decode cX6_shares 54 = .ok (.iload_n 1, 1) := by decide +kernel
theorem dX6_shares_55 : decode cX6_shares 55 = .ok (.if_icmp .lt 6, 3) := by decide +kernel
theorem dX6_shares_58 : decode cX6_shares 58 = .ok (.ldc 152, 2) := by decide +kernel
theorem dX6_shares_60 : decode cX6_shares 60 = .ok (.ireturn, 1) := by decide +kernel
theorem dX6_shares_61 : decode cX6_shares 61 = .ok (.aload_n 0, 1) := by decide +kernel
theorem dX6_shares_62 : decode cX6_shares 62 = .ok (.getfield 25, 3) := by decide +kernel
theorem dX6_shares_65 : decode cX6_shares 65 = .ok (.iload_n 1, 1) := by decide +kernel
theorem dX6_shares_66 : decode cX6_shares 66 = .ok (.iload_n 2, 1) := by decide +kernel
theorem dX6_shares_67 : decode cX6_shares 67 = .ok (.iconst 1, 1) := by decide +kernel
theorem dX6_shares_68 : decode cX6_shares 68 = .ok (.iadd, 1) := by decide +kernel
theorem dX6_shares_69 : decode cX6_shares 69 = .ok (.invokevirtual 209, 3) := by decide +kernel
theorem dX6_shares_72 : decode cX6_shares 72 = .ok (.aload_n 0, 1) := by decide +kernel
theorem dX6_shares_73 : decode cX6_shares 73 = .ok (.getfield 25, 3) := by decide +kernel
theorem dX6_shares_76 : decode cX6_shares 76 = .ok (.iload_n 1, 1) := by decide +kernel
theorem dX6_shares_77 : decode cX6_shares 77 = .ok (.iload_n 2, 1) := by decide +kernel
theorem dX6_shares_78 : decode cX6_shares 78 = .ok (.invokevirtual 209, 3) := by decide +kernel
theorem dX6_shares_81 : decode cX6_shares 81 = .ok (.isub, 1) := by decide +kernel
theorem dX6_shares_82 : decode cX6_shares 82 = .ok (.ireturn, 1) := by decide +kernel
theorem dX6_size_0 : decode cX6_size 0 = .ok (.aload_n 0, 1) := by decide +kernel
theorem dX6_size_1 : decode cX6_size 1 = .ok (.getfield 25, 3) := by decide +kernel
theorem dX6_size_4 : decode cX6_size 4 = .ok (.getfield 132, 3) := by decide +kernel
theorem dX6_size_7 : decode cX6_size 7 = .ok (.ifCond .eq 13, 3) := by decide +kernel
theorem dX6_size_10 : decode cX6_size 10 = .ok (.aload_n 0, 1) := by decide +kernel
theorem dX6_size_11 : decode cX6_size 11 = .ok (.getfield 25, 3) := by decide +kernel
theorem dX6_size_14 : decode cX6_size 14 = .ok (.invokevirtual 213, 3) := by decide +kernel
theorem dX6_size_17 : decode cX6_size 17 = .ok (.goto 5, 3) := by decide +kernel
theorem dX6_size_20 : decode cX6_size 20 = .ok (.ldc 135, 2) := by decide +kernel
theorem dX6_size_22 : decode cX6_size 22 = .ok (.ireturn, 1) := by decide +kernel
theorem dX6_book_0 : decode cX6_book 0 = .ok (.aload_n 0, 1) := by decide +kernel
theorem dX6_book_1 : decode cX6_book 1 = .ok (.iload_n 1, 1) := by decide +kernel
theorem dX6_book_2 : decode cX6_book 2 = .ok (.invokevirtual 146, 3) := by decide +kernel
theorem dX6_book_5 : decode cX6_book 5 = .ok (.ifCond .eq 13, 3) := by decide +kernel
theorem dX6_book_8 : decode cX6_book 8 = .ok (.iload_n 2, 1) := by decide +kernel
theorem dX6_book_9 : decode cX6_book 9 = .ok (.iconst 1, 1) := by decide +kernel
theorem dX6_book_10 : decode cX6_book 10 = .ok (.bipush 30, 2) := by decide +kernel
theorem dX6_book_12 : decode cX6_book 12 = .ok (.invokestatic 59, 3) := by decide +kernel
theorem dX6_book_15 : decode cX6_book 15 = .ok (.ifCond .ne 6, 3) := by decide +kernel
theorem dX6_book_18 : decode cX6_book 18 = .ok (.ldc 63, 2) := by decide +kernel
theorem dX6_book_20 : decode cX6_book 20 = .ok (.ireturn, 1) := by decide +kernel
theorem dX6_book_21 : decode cX6_book 21 = .ok (.aload_n 0, 1) := by decide +kernel
theorem dX6_book_22 : decode cX6_book 22 = .ok (.getfield 43, 3) := by decide +kernel
theorem dX6_book_25 : decode cX6_book 25 = .ok (.aload_n 0, 1) := by decide +kernel
theorem dX6_book_26 : decode cX6_book 26 = .ok (.getfield 25, 3) := by decide +kernel
theorem dX6_book_29 : decode cX6_book 29 = .ok (.iload_n 1, 1) := by decide +kernel
theorem dX6_book_30 : decode cX6_book 30 = .ok (.iload_n 2, 1) := by decide +kernel
theorem dX6_book_31 : decode cX6_book 31 = .ok (.invokevirtual 216, 3) := by decide +kernel
theorem dX6_book_34 : decode cX6_book 34 = .ok (.ireturn, 1) := by decide +kernel
theorem dX6_ford_0 : decode cX6_ford 0 = .ok (.aload_n 0, 1) := by decide +kernel
theorem dX6_ford_1 : decode cX6_ford 1 = .ok (.iload_n 1, 1) := by decide +kernel
theorem dX6_ford_2 : decode cX6_ford 2 = .ok (.invokevirtual 146, 3) := by decide +kernel
theorem dX6_ford_5 : decode cX6_ford 5 = .ok (.ifCond .eq 13, 3) := by decide +kernel
theorem dX6_ford_8 : decode cX6_ford 8 = .ok (.iload_n 2, 1) := by decide +kernel
theorem dX6_ford_9 : decode cX6_ford 9 = .ok (.iconst 0, 1) := by decide +kernel
theorem dX6_ford_10 : decode cX6_ford 10 = .ok (.bipush 100, 2) := by decide +kernel
theorem dX6_ford_12 : decode cX6_ford 12 = .ok (.invokestatic 59, 3) := by decide +kernel
theorem dX6_ford_15 : decode cX6_ford 15 = .ok (.ifCond .ne 6, 3) := by decide +kernel
theorem dX6_ford_18 : decode cX6_ford 18 = .ok (.ldc 63, 2) := by decide +kernel
theorem dX6_ford_20 : decode cX6_ford 20 = .ok (.ireturn, 1) := by decide +kernel
theorem dX6_ford_21 : decode cX6_ford 21 = .ok (.iload_n 3, 1) := by decide +kernel
theorem dX6_ford_22 : decode cX6_ford 22 = .ok (.iconst 0, 1) := by decide +kernel
theorem dX6_ford_23 : decode cX6_ford 23 = .ok (.iconst 3, 1) := by decide +kernel
theorem dX6_ford_24 : decode cX6_ford 24 = .ok (.invokestatic 59, 3) := by decide +kernel
theorem dX6_ford_27 : decode cX6_ford 27 = .ok (.ifCond .eq 13, 3) := by decide +kernel
theorem dX6_ford_30 : decode cX6_ford 30 = .ok (.iload 4, 2) := by decide +kernel
theorem dX6_ford_32 : decode cX6_ford 32 = .ok (.iconst 0, 1) := by decide +kernel
theorem dX6_ford_33 : decode cX6_ford 33 = .ok (.iconst 1, 1) := by decide +kernel
theorem dX6_ford_34 : decode cX6_ford 34 = .ok (.invokestatic 59, 3) := by decide +kernel
theorem dX6_ford_37 : decode cX6_ford 37 = .ok (.ifCond .ne 6, 3) := by decide +kernel
theorem dX6_ford_40 : decode cX6_ford 40 = .ok (.ldc 63, 2) := by decide +kernel
theorem dX6_ford_42 : decode cX6_ford 42 = .ok (.ireturn, 1) := by decide +kernel
theorem dX6_ford_43 : decode cX6_ford 43 = .ok (.aload_n 0, 1) := by decide +kernel
theorem dX6_ford_44 : decode cX6_ford 44 = .ok (.getfield 43, 3) := by decide +kernel
theorem dX6_ford_47 : decode cX6_ford 47 = .ok (.aload_n 0, 1) := by decide +kernel
theorem dX6_ford_48 : decode cX6_ford 48 = .ok (.getfield 25, 3) := by decide +kernel
theorem dX6_ford_51 : decode cX6_ford 51 = .ok (.iload_n 1, 1) := by decide +kernel
theorem dX6_ford_52 : decode cX6_ford 52 = .ok (.iload_n 2, 1) := by decide +kernel
theorem dX6_ford_53 : decode cX6_ford 53 = .ok (.iload_n 3, 1) := by decide +kernel
theorem dX6_ford_54 : decode cX6_ford 54 = .ok (.iload 4, 2) := by decide +kernel
theorem dX6_ford_56 : decode cX6_ford 56 = .ok (.ifCond .ne 7, 3) := by decide +kernel
theorem dX6_ford_59 : decode cX6_ford 59 = .ok (.iconst 1, 1) := by decide +kernel
theorem dX6_ford_60 : decode cX6_ford 60 = .ok (.goto 4, 3) := by decide +kernel
theorem dX6_ford_63 : decode cX6_ford 63 = .ok (.iconst 0, 1) := by decide +kernel
theorem dX6_ford_64 : decode cX6_ford 64 = .ok (.invokevirtual 219, 3) := by decide +kernel
theorem dX6_ford_67 : decode cX6_ford 67 = .ok (.ireturn, 1) := by decide +kernel
theorem dX6_goat_0 : decode cX6_goat 0 = .ok (.aload_n 0, 1) := by decide +kernel
theorem dX6_goat_1 : decode cX6_goat 1 = .ok (.iload_n 1, 1) := by decide +kernel
theorem dX6_goat_2 : decode cX6_goat 2 = .ok (.invokevirtual 146, 3) := by decide +kernel
theorem dX6_goat_5 : decode cX6_goat 5 = .ok (.ifCond .eq 10, 3) := by decide +kernel
theorem dX6_goat_8 : decode cX6_goat 8 = .ok (.iload_n 2, 1) := by decide +kernel
theorem dX6_goat_9 : decode cX6_goat 9 = .ok (.invokestatic 195, 3) := by decide +kernel
theorem dX6_goat_12 : decode cX6_goat 12 = .ok (.ifCond .ne 6, 3) := by decide +kernel
theorem dX6_goat_15 : decode cX6_goat 15 = .ok (.ldc 63, 2) := by decide +kernel
theorem dX6_goat_17 : decode cX6_goat 17 = .ok (.ireturn, 1) := by decide +kernel
theorem dX6_goat_18 : decode cX6_goat 18 = .ok (.aload_n 0, 1) := by decide +kernel
theorem dX6_goat_19 : decode cX6_goat 19 = .ok (.getfield 43, 3) := by decide +kernel
theorem dX6_goat_22 : decode cX6_goat 22 = .ok (.aload_n 0, 1) := by decide +kernel
theorem dX6_goat_23 : decode cX6_goat 23 = .ok (.getfield 25, 3) := by decide +kernel
theorem dX6_goat_26 : decode cX6_goat 26 = .ok (.iload_n 1, 1) := by decide +kernel
theorem dX6_goat_27 : decode cX6_goat 27 = .ok (.iload_n 2, 1) := by decide +kernel
theorem dX6_goat_28 : decode cX6_goat 28 = .ok (.invokevirtual 222, 3) := by decide +kernel
theorem dX6_goat_31 : decode cX6_goat 31 = .ok (.ireturn, 1) := by decide +kernel
theorem dX6_image_0 : decode cX6_image 0 = .ok (.iload_n 1, 1) := by decide +kernel
theorem dX6_image_1 : decode cX6_image 1 = .ok (.iconst 0, 1) := by decide +kernel
theorem dX6_image_2 : decode cX6_image 2 = .ok (.iconst 1, 1) := by decide +kernel
theorem dX6_image_3 : decode cX6_image 3 = .ok (.invokestatic 59, 3) := by decide +kernel
theorem dX6_image_6 : decode cX6_image 6 = .ok (.ifCond .ne 6, 3) := by decide +kernel
theorem dX6_image_9 : decode cX6_image 9 = .ok (.ldc 63, 2) := by decide +kernel
theorem dX6_image_11 : decode cX6_image 11 = .ok (.ireturn, 1) := by decide +kernel
theorem dX6_image_12 : decode cX6_image 12 = .ok (.aload_n 0, 1) := by decide +kernel
theorem dX6_image_13 : decode cX6_image 13 = .ok (.getfield 25, 3) := by decide +kernel
theorem dX6_image_16 : decode cX6_image 16 = .ok (.getfield 132, 3) := by decide +kernel
theorem dX6_image_19 : decode cX6_image 19 = .ok (.ifCond .ne 6, 3) := by decide +kernel
theorem dX6_image_22 : decode cX6_image 22 = .ok (.ldc 135, 2) := by decide +kernel
theorem dX6_image_24 : decode cX6_image 24 = .ok (.ireturn, 1) := by decide +kernel
theorem dX6_image_25 : decode cX6_image 25 = .ok (.aload_n 0, 1) := by decide +kernel
theorem dX6_image_26 : decode cX6_image 26 = .ok (.getfield 29, 3) := by decide +kernel
theorem dX6_image_29 : decode cX6_image 29 = .ok (.iload_n 1, 1) := by decide +kernel
theorem dX6_image_30 : decode cX6_image 30 = .ok (.aaload, 1) := by decide +kernel
theorem dX6_image_31 : decode cX6_image 31 = .ok (.aload_n 0, 1) := by decide +kernel
theorem dX6_image_32 : decode cX6_image 32 = .ok (.getfield 25, 3) := by decide +kernel
theorem dX6_image_35 : decode cX6_image 35 = .ok (.invokevirtual 124, 3) := by decide +kernel
theorem dX6_image_38 : decode cX6_image 38 = .ok (.iconst 1, 1) := by decide +kernel
theorem dX6_image_39 : decode cX6_image 39 = .ok (.ireturn, 1) := by decide +kernel
theorem dX6_restore_0 : decode cX6_restore 0 = .ok (.iload_n 1, 1) := by decide +kernel
theorem dX6_restore_1 : decode cX6_restore 1 = .ok (.iconst 0, 1) := by decide +kernel
theorem dX6_restore_2 : decode cX6_restore 2 = .ok (.iconst 1, 1) := by decide +kernel
theorem dX6_restore_3 : decode cX6_restore 3 = .ok (.invokestatic 59, 3) := by decide +kernel
theorem dX6_restore_6 : decode cX6_restore 6 = .ok (.ifCond .ne 6, 3) := by decide +kernel
theorem dX6_restore_9 : decode cX6_restore 9 = .ok (.ldc 63, 2) := by decide +kernel
theorem dX6_restore_11 : decode cX6_restore 11 = .ok (.ireturn, 1) := by decide +kernel
theorem dX6_restore_12 : decode cX6_restore 12 = .ok (.aload_n 0, 1) := by decide +kernel
theorem dX6_restore_13 : decode cX6_restore 13 = .ok (.getfield 29, 3) := by decide +kernel
theorem dX6_restore_16 : decode cX6_restore 16 = .ok (.iload_n 1, 1) := by decide +kernel
theorem dX6_restore_17 : decode cX6_restore 17 = .ok (.aaload, 1) := by decide +kernel
theorem dX6_restore_18 : decode cX6_restore 18 = .ok (.getfield 132, 3) := by decide +kernel
theorem dX6_restore_21 : decode cX6_restore 21 = .ok (.ifCond .ne 6, 3) := by decide +kernel
theorem dX6_restore_24 : decode cX6_restore 24 = .ok (.ldc 135, 2) := by decide +kernel
theorem dX6_restore_26 : decode cX6_restore 26 = .ok (.ireturn, 1) := by decide +kernel
theorem dX6_restore_27 : decode cX6_restore 27 = .ok (.aload_n 0, 1) := by decide +kernel
theorem dX6_restore_28 : decode cX6_restore 28 = .ok (.getfield 25, 3) := by decide +kernel
theorem dX6_restore_31 : decode cX6_restore 31 = .ok (.aload_n 0, 1) := by decide +kernel
theorem dX6_restore_32 : decode cX6_restore 32 = .ok (.getfield 29, 3) := by decide +kernel
theorem dX6_restore_35 : decode cX6_restore 35 = .ok (.iload_n 1, 1) := by decide +kernel
theorem dX6_restore_36 : decode cX6_restore 36 = .ok (.aaload, 1) := by decide +kernel
theorem dX6_restore_37 : decode cX6_restore 37 = .ok (.invokevirtual 124, 3) := by decide +kernel
theorem dX6_restore_40 : decode cX6_restore 40 = .ok (.aload_n 0, 1) := by decide +kernel
theorem dX6_restore_41 : decode cX6_restore 41 = .ok (.getfield 36, 3) := by decide +kernel
theorem dX6_restore_44 : decode cX6_restore 44 = .ok (.iconst 0, 1) := by decide +kernel
theorem dX6_restore_45 : decode cX6_restore 45 = .ok (.putfield 128, 3) := by decide +kernel
theorem dX6_restore_48 : decode cX6_restore 48 = .ok (.iconst 1, 1) := by decide +kernel
theorem dX6_restore_49 : decode cX6_restore 49 = .ok (.ireturn, 1) := by decide +kernel
theorem dX6_kind_0 : decode cX6_kind 0 = .ok (.aload_n 0, 1) := by decide +kernel
theorem dX6_kind_1 : decode cX6_kind 1 = .ok (.iload_n 1, 1) := by decide +kernel
theorem dX6_kind_2 : decode cX6_kind 2 = .ok (.invokevirtual 146, 3) := by decide +kernel
theorem dX6_kind_5 : decode cX6_kind 5 = .ok (.ifCond .eq 15, 3) := by decide +kernel
theorem dX6_kind_8 : decode cX6_kind 8 = .ok (.aload_n 0, 1) := by decide +kernel
theorem dX6_kind_9 : decode cX6_kind 9 = .ok (.getfield 25, 3) := by decide +kernel
theorem dX6_kind_12 : decode cX6_kind 12 = .ok (.getfield 225, 3) := by decide +kernel
theorem dX6_kind_15 : decode cX6_kind 15 = .ok (.iload_n 1, 1) := by decide +kernel
theorem dX6_kind_16 : decode cX6_kind 16 = .ok (.iaload, 1) := by decide +kernel
theorem dX6_kind_17 : decode cX6_kind 17 = .ok (.goto 5, 3) := by decide +kernel
theorem dX6_kind_20 : decode cX6_kind 20 = .ok (.ldc 63, 2) := by decide +kernel
theorem dX6_kind_22 : decode cX6_kind 22 = .ok (.ireturn, 1) := by decide +kernel
theorem dX6_as_0 : decode cX6_as 0 = .ok (.aload_n 0, 1) := by decide +kernel
theorem dX6_as_1 : decode cX6_as 1 = .ok (.iload_n 1, 1) := by decide +kernel
theorem dX6_as_2 : decode cX6_as 2 = .ok (.invokevirtual 146, 3) := by decide +kernel
theorem dX6_as_5 : decode cX6_as 5 = .ok (.ifCond .eq 12, 3) := by decide +kernel
theorem dX6_as_8 : decode cX6_as 8 = .ok (.iload_n 2, 1) := by decide +kernel
theorem dX6_as_9 : decode cX6_as 9 = .ok (.iconst 0, 1) := by decide +kernel
theorem dX6_as_10 : decode cX6_as 10 = .ok (.iconst 5, 1) := by decide +kernel
theorem dX6_as_11 : decode cX6_as 11 = .ok (.invokestatic 59, 3) := by decide +kernel
theorem dX6_as_14 : decode cX6_as 14 = .ok (.ifCond .ne 6, 3) := by decide +kernel
theorem dX6_as_17 : decode cX6_as 17 = .ok (.ldc 63, 2) := by decide +kernel
theorem dX6_as_19 : decode cX6_as 19 = .ok (.ireturn, 1) := by decide +kernel
theorem dX6_as_20 : decode cX6_as 20 = .ok (.aload_n 0, 1) := by decide +kernel
theorem dX6_as_21 : decode cX6_as 21 = .ok (.getfield 25, 3) := by decide +kernel
theorem dX6_as_24 : decode cX6_as 24 = .ok (.getfield 225, 3) := by decide +kernel
theorem dX6_as_27 : decode cX6_as 27 = .ok (.iload_n 1, 1) := by decide +kernel
theorem dX6_as_28 : decode cX6_as 28 = .ok (.iaload, 1) := by decide +kernel
theorem dX6_as_29 : decode cX6_as 29 = .ok (.iload_n 2, 1) := by decide +kernel
theorem dX6_as_30 : decode cX6_as 30 = .ok (.invokestatic 228, 3) := by decide +kernel
theorem dX6_as_33 : decode cX6_as 33 = .ok (.ifCond .ne 9, 3) := by decide +kernel
theorem dX6_as_36 : decode cX6_as 36 = .ok (.aload_n 0, 1) := by decide +kernel
theorem dX6_as_37 : decode cX6_as 37 = .ok (.iconst 3, 1) := by decide +kernel
theorem dX6_as_38 : decode cX6_as 38 = .ok (.invokevirtual 64, 3) := by decide +kernel
theorem dX6_as_41 : decode cX6_as 41 = .ok (.ireturn, 1) := by decide +kernel
theorem dX6_as_42 : decode cX6_as 42 = .ok (.aload_n 0, 1) := by decide +kernel
theorem dX6_as_43 : decode cX6_as 43 = .ok (.iconst 0, 1) := by decide +kernel
theorem dX6_as_44 : decode cX6_as 44 = .ok (.putfield 72, 3) := by decide +kernel
theorem dX6_as_47 : decode cX6_as 47 = .ok (.iload_n 1, 1) := by decide +kernel
theorem dX6_as_48 : decode cX6_as 48 = .ok (.ireturn, 1) := by decide +kernel
theorem dX6_ask_0 : decode cX6_ask 0 = .ok (.aload_n 0, 1) := by decide +kernel
theorem dX6_ask_1 : decode cX6_ask 1 = .ok (.iload_n 1, 1) := by decide +kernel
theorem dX6_ask_2 : decode cX6_ask 2 = .ok (.invokevirtual 146, 3) := by decide +kernel
theorem dX6_ask_5 : decode cX6_ask 5 = .ok (.ifCond .eq 12, 3) := by decide +kernel
theorem dX6_ask_8 : decode cX6_ask 8 = .ok (.iload_n 2, 1) := by decide +kernel
theorem dX6_ask_9 : decode cX6_ask 9 = .ok (.iconst 0, 1) := by decide +kernel
theorem dX6_ask_10 : decode cX6_ask 10 = .ok (.iconst 1, 1) := by decide +kernel
theorem dX6_ask_11 : decode cX6_ask 11 = .ok (.invokestatic 59, 3) := by decide +kernel
theorem dX6_ask_14 : decode cX6_ask 14 = .ok (.ifCond .ne 6, 3) := by decide +kernel
theorem dX6_ask_17 : decode cX6_ask 17 = .ok (.ldc 63, 2) := by decide +kernel
theorem dX6_ask_19 : decode cX6_ask 19 = .ok (.ireturn, 1) := by decide +kernel
theorem dX6_ask_20 : decode cX6_ask 20 = .ok (.aload_n 0, 1) := by decide +kernel
theorem dX6_ask_21 : decode cX6_ask 21 = .ok (.getfield 50, 3) := by decide +kernel
theorem dX6_ask_24 : decode cX6_ask 24 = .ok (.aload_n 0, 1) := by decide +kernel
theorem dX6_ask_25 : decode cX6_ask 25 = .ok (.getfield 25, 3) := by decide +kernel
theorem dX6_ask_28 : decode cX6_ask 28 = .ok (.iload_n 1, 1) := by decide +kernel
theorem dX6_ask_29 : decode cX6_ask 29 = .ok (.iload_n 2, 1) := by decide +kernel
theorem dX6_ask_30 : decode cX6_ask 30 = .ok (.ifCond .ne 9, 3) := by decide +kernel
theorem dX6_ask_33 : decode cX6_ask 33 = .ok (.getstatic 231, 3) := by decide +kernel
theorem dX6_ask_36 : decode cX6_ask 36 = .ok (.goto 6, 3) := by decide +kernel
theorem dX6_ask_39 : decode cX6_ask 39 = .ok (.getstatic 234, 3) := by decide +kernel
theorem dX6_ask_42 : decode cX6_ask 42 = .ok (.invokevirtual 237, 3) := by decide +kernel
theorem dX6_ask_45 : decode cX6_ask 45 = .ok (.ireturn, 1) := by decide +kernel
theorem dX6_trace_0 : decode cX6_trace 0 = .ok (.iload_n 1, 1) := by decide +kernel
theorem dX6_trace_1 : decode cX6_trace 1 = .ok (.iconst 0, 1) := by decide +kernel
theorem dX6_trace_2 : decode cX6_trace 2 = .ok (.aload_n 0, 1) := by decide +kernel
theorem dX6_trace_3 : decode cX6_trace 3 = .ok (.getfield 50, 3) := by decide +kernel
theorem dX6_trace_6 : decode cX6_trace 6 = .ok (.getfield 240, 3) := by decide +kernel
theorem dX6_trace_9 : decode cX6_trace 9 = .ok (.iconst 1, 1) := by decide +kernel
theorem dX6_trace_10 : decode cX6_trace 10 = .ok (.isub, 1) := by decide +kernel
theorem dX6_trace_11 : decode cX6_trace 11 = .ok (.invokestatic 59, 3) := by decide +kernel
theorem dX6_trace_14 : decode cX6_trace 14 = .ok (.ifCond .eq 15, 3) := by decide +kernel
theorem dX6_trace_17 : decode cX6_trace 17 = .ok (.aload_n 0, 1) := by decide +kernel
theorem dX6_trace_18 : decode cX6_trace 18 = .ok (.getfield 50, 3) := by decide +kernel
theorem dX6_trace_21 : decode cX6_trace 21 = .ok (.getfield 241, 3) := by decide +kernel
theorem dX6_trace_24 : decode cX6_trace 24 = .ok (.iload_n 1, 1) := by decide +kernel
theorem dX6_trace_25 : decode cX6_trace 25 = .ok (.iaload, 1) := by decide +kernel
theorem dX6_trace_26 : decode cX6_trace 26 = .ok (.goto 5, 3) := by decide +kernel
theorem dX6_trace_29 : decode cX6_trace 29 = .ok (.ldc 152, 2) := by decide +kernel
theorem dX6_trace_31 : decode cX6_trace 31 = .ok (.ireturn, 1) := by decide +kernel
theorem dX6_count_0 : decode cX6_count 0 = .ok (.iload_n 1, 1) := by decide +kernel
theorem dX6_count_1 : decode cX6_count 1 = .ok (.tableswitch 96 0 6 #[43, 48, 56, 64, 72, 80, 88], 43) := by decide +kernel
theorem dX6_count_44 : decode cX6_count 44 = .ok (.aload_n 0, 1) := by decide +kernel
theorem dX6_count_45 : decode cX6_count 45 = .ok (.invokevirtual 244, 3) := by decide +kernel
theorem dX6_count_48 : decode cX6_count 48 = .ok (.ireturn, 1) := by decide +kernel
theorem dX6_count_49 : decode cX6_count 49 = .ok (.aload_n 0, 1) := by decide +kernel
theorem dX6_count_50 : decode cX6_count 50 = .ok (.getfield 25, 3) := by decide +kernel
theorem dX6_count_53 : decode cX6_count 53 = .ok (.getfield 129, 3) := by decide +kernel
theorem dX6_count_56 : decode cX6_count 56 = .ok (.ireturn, 1) := by decide +kernel
theorem dX6_count_57 : decode cX6_count 57 = .ok (.aload_n 0, 1) := by decide +kernel
theorem dX6_count_58 : decode cX6_count 58 = .ok (.getfield 25, 3) := by decide +kernel
theorem dX6_count_61 : decode cX6_count 61 = .ok (.getfield 136, 3) := by decide +kernel
theorem dX6_count_64 : decode cX6_count 64 = .ok (.ireturn, 1) := by decide +kernel
theorem dX6_count_65 : decode cX6_count 65 = .ok (.aload_n 0, 1) := by decide +kernel
theorem dX6_count_66 : decode cX6_count 66 = .ok (.getfield 25, 3) := by decide +kernel
theorem dX6_count_69 : decode cX6_count 69 = .ok (.invokevirtual 247, 3) := by decide +kernel
theorem dX6_count_72 : decode cX6_count 72 = .ok (.ireturn, 1) := by decide +kernel
theorem dX6_count_73 : decode cX6_count 73 = .ok (.aload_n 0, 1) := by decide +kernel
theorem dX6_count_74 : decode cX6_count 74 = .ok (.getfield 36, 3) := by decide +kernel
theorem dX6_count_77 : decode cX6_count 77 = .ok (.getfield 128, 3) := by decide +kernel
theorem dX6_count_80 : decode cX6_count 80 = .ok (.ireturn, 1) := by decide +kernel
theorem dX6_count_81 : decode cX6_count 81 = .ok (.aload_n 0, 1) := by decide +kernel
theorem dX6_count_82 : decode cX6_count 82 = .ok (.getfield 25, 3) := by decide +kernel
theorem dX6_count_85 : decode cX6_count 85 = .ok (.invokevirtual 250, 3) := by decide +kernel
theorem dX6_count_88 : decode cX6_count 88 = .ok (.ireturn, 1) := by decide +kernel
theorem dX6_count_89 : decode cX6_count 89 = .ok (.aload_n 0, 1) := by decide +kernel
theorem dX6_count_90 : decode cX6_count 90 = .ok (.getfield 18, 3) := by decide +kernel
theorem dX6_count_93 : decode cX6_count 93 = .ok (.getfield 103, 3) := by decide +kernel
theorem dX6_count_96 : decode cX6_count 96 = .ok (.ireturn, 1) := by decide +kernel
theorem dX6_count_97 : decode cX6_count 97 = .ok (.ldc 63, 2) := by decide +kernel
theorem dX6_count_99 : decode cX6_count 99 = .ok (.ireturn, 1) := by decide +kernel
theorem dX6_status_0 : decode cX6_status 0 = .ok (.aload_n 0, 1) := by decide +kernel
theorem dX6_status_1 : decode cX6_status 1 = .ok (.getfield 72, 3) := by decide +kernel
theorem dX6_status_4 : decode cX6_status 4 = .ok (.ireturn, 1) := by decide +kernel
theorem dX6_found_0 : decode cX6_found 0 = .ok (.aload_n 0, 1) := by decide +kernel
theorem dX6_found_1 : decode cX6_found 1 = .ok (.iload_n 1, 1) := by decide +kernel
theorem dX6_found_2 : decode cX6_found 2 = .ok (.putfield 72, 3) := by decide +kernel
theorem dX6_found_5 : decode cX6_found 5 = .ok (.ldc 253, 2) := by decide +kernel
theorem dX6_found_7 : decode cX6_found 7 = .ok (.iload_n 1, 1) := by decide +kernel
theorem dX6_found_8 : decode cX6_found 8 = .ok (.isub, 1) := by decide +kernel
theorem dX6_found_9 : decode cX6_found 9 = .ok (.ireturn, 1) := by decide +kernel
theorem dX6_isCart_0 : decode cX6_isCart 0 = .ok (.iload_n 1, 1) := by decide +kernel
theorem dX6_isCart_1 : decode cX6_isCart 1 = .ok (.iconst 0, 1) := by decide +kernel
theorem dX6_isCart_2 : decode cX6_isCart 2 = .ok (.aload_n 0, 1) := by decide +kernel
theorem dX6_isCart_3 : decode cX6_isCart 3 = .ok (.getfield 25, 3) := by decide +kernel
theorem dX6_isCart_6 : decode cX6_isCart 6 = .ok (.getfield 129, 3) := by decide +kernel
theorem dX6_isCart_9 : decode cX6_isCart 9 = .ok (.iconst 1, 1) := by decide +kernel
theorem dX6_isCart_10 : decode cX6_isCart 10 = .ok (.isub, 1) := by decide +kernel
theorem dX6_isCart_11 : decode cX6_isCart 11 = .ok (.invokestatic 59, 3) := by decide +kernel
theorem dX6_isCart_14 : decode cX6_isCart 14 = .ok (.ireturn, 1) := by decide +kernel
theorem dX6_rowsThere_0 : decode cX6_rowsThere 0 = .ok (.iconst 0, 1) := by decide +kernel
theorem dX6_rowsThere_1 : decode cX6_rowsThere 1 = .ok (.istore_n 1, 1) := by decide +kernel
theorem dX6_rowsThere_2 : decode cX6_rowsThere 2 = .ok (.iconst 0, 1) := by decide +kernel
theorem dX6_rowsThere_3 : decode cX6_rowsThere 3 = .ok (.istore_n 2, 1) := by decide +kernel
theorem dX6_rowsThere_4 : decode cX6_rowsThere 4 = .ok (.iload_n 2, 1) := by decide +kernel
theorem dX6_rowsThere_5 : decode cX6_rowsThere 5 = .ok (.bipush 8, 2) := by decide +kernel
theorem dX6_rowsThere_7 : decode cX6_rowsThere 7 = .ok (.if_icmp .ge 24, 3) := by decide +kernel
theorem dX6_rowsThere_10 : decode cX6_rowsThere 10 = .ok (.aload_n 0, 1) := by decide +kernel
theorem dX6_rowsThere_11 : decode cX6_rowsThere 11 = .ok (.getfield 11, 3) := by decide +kernel
theorem dX6_rowsThere_14 : decode cX6_rowsThere 14 = .ok (.iload_n 2, 1) := by decide +kernel
theorem dX6_rowsThere_15 : decode cX6_rowsThere 15 = .ok (.aaload, 1) := by decide +kernel
theorem dX6_rowsThere_16 : decode cX6_rowsThere 16 = .ok (.getfield 76, 3) := by decide +kernel
theorem dX6_rowsThere_19 : decode cX6_rowsThere 19 = .ok (.ifCond .eq 6, 3) := by decide +kernel
theorem dX6_rowsThere_22 : decode cX6_rowsThere 22 = .ok (.iinc 1 1, 3) := by decide +kernel
theorem dX6_rowsThere_25 : decode cX6_rowsThere 25 = .ok (.iinc 2 1, 3) := by decide +kernel
theorem dX6_rowsThere_28 : decode cX6_rowsThere 28 = .ok (.goto (-24), 3) := by decide +kernel
theorem dX6_rowsThere_31 : decode cX6_rowsThere 31 = .ok (.iload_n 1, 1) := by decide +kernel
theorem dX6_rowsThere_32 : decode cX6_rowsThere 32 = .ok (.ireturn, 1) := by decide +kernel
theorem dX6_isRow_0 : decode cX6_isRow 0 = .ok (.iload_n 0, 1) := by decide +kernel
theorem dX6_isRow_1 : decode cX6_isRow 1 = .ok (.iconst 0, 1) := by decide +kernel
theorem dX6_isRow_2 : decode cX6_isRow 2 = .ok (.bipush 7, 2) := by decide +kernel
theorem dX6_isRow_4 : decode cX6_isRow 4 = .ok (.invokestatic 59, 3) := by decide +kernel
theorem dX6_isRow_7 : decode cX6_isRow 7 = .ok (.ireturn, 1) := by decide +kernel
theorem dX6_isHour_0 : decode cX6_isHour 0 = .ok (.iload_n 0, 1) := by decide +kernel
theorem dX6_isHour_1 : decode cX6_isHour 1 = .ok (.iconst 0, 1) := by decide +kernel
theorem dX6_isHour_2 : decode cX6_isHour 2 = .ok (.bipush 11, 2) := by decide +kernel
theorem dX6_isHour_4 : decode cX6_isHour 4 = .ok (.invokestatic 59, 3) := by decide +kernel
theorem dX6_isHour_7 : decode cX6_isHour 7 = .ok (.ireturn, 1) := by decide +kernel
theorem dX6_isWithin_0 : decode cX6_isWithin 0 = .ok (.iload_n 0, 1) := by decide +kernel
theorem dX6_isWithin_1 : decode cX6_isWithin 1 = .ok (.iload_n 1, 1) := by decide +kernel
theorem dX6_isWithin_2 : decode cX6_isWithin 2 = .ok (.if_icmp .lt 12, 3) := by decide +kernel
theorem dX6_isWithin_5 : decode cX6_isWithin 5 = .ok (.iload_n 0, 1) := by decide +kernel
theorem dX6_isWithin_6 : decode cX6_isWithin 6 = .ok (.iload_n 2, 1) := by decide +kernel
theorem dX6_isWithin_7 : decode cX6_isWithin 7 = .ok (.if_icmp .gt 7, 3) := by decide +kernel
theorem dX6_isWithin_10 : decode cX6_isWithin 10 = .ok (.iconst 1, 1) := by decide +kernel
theorem dX6_isWithin_11 : decode cX6_isWithin 11 = .ok (.goto 4, 3) := by decide +kernel
theorem dX6_isWithin_14 : decode cX6_isWithin 14 = .ok (.iconst 0, 1) := by decide +kernel
theorem dX6_isWithin_15 : decode cX6_isWithin 15 = .ok (.ireturn, 1) := by decide +kernel
theorem dX6_isOfKind_0 : decode cX6_isOfKind 0 = .ok (.iload_n 0, 1) := by decide +kernel
theorem dX6_isOfKind_1 : decode cX6_isOfKind 1 = .ok (.istore_n 2, 1) := by decide +kernel
theorem dX6_isOfKind_2 : decode cX6_isOfKind 2 = .ok (.iconst 0, 1) := by decide +kernel
theorem dX6_isOfKind_3 : decode cX6_isOfKind 3 = .ok (.istore_n 3, 1) := by decide +kernel
theorem dX6_isOfKind_4 : decode cX6_isOfKind 4 = .ok (.iload_n 3, 1) := by decide +kernel
theorem dX6_isOfKind_5 : decode cX6_isOfKind 5 = .ok (.bipush 6, 2) := by decide +kernel
theorem dX6_isOfKind_7 : decode cX6_isOfKind 7 = .ok (.if_icmp .ge 29, 3) := by decide +kernel
theorem dX6_isOfKind_10 : decode cX6_isOfKind 10 = .ok (.iload_n 2, 1) := by decide +kernel
theorem dX6_isOfKind_11 : decode cX6_isOfKind 11 = .ok (.iload_n 1, 1) := by decide +kernel
theorem dX6_isOfKind_12 : decode cX6_isOfKind 12 = .ok (.if_icmp .eq 24, 3) := by decide +kernel
theorem dX6_isOfKind_15 : decode cX6_isOfKind 15 = .ok (.iload_n 2, 1) := by decide +kernel
theorem dX6_isOfKind_16 : decode cX6_isOfKind 16 = .ok (.iconst 0, 1) := by decide +kernel
theorem dX6_isOfKind_17 : decode cX6_isOfKind 17 = .ok (.iconst 5, 1) := by decide +kernel
theorem dX6_isOfKind_18 : decode cX6_isOfKind 18 = .ok (.invokestatic 59, 3) := by decide +kernel
theorem dX6_isOfKind_21 : decode cX6_isOfKind 21 = .ok (.ifCond .eq 15, 3) := by decide +kernel
theorem dX6_isOfKind_24 : decode cX6_isOfKind 24 = .ok (.getstatic 254, 3) := by decide +kernel
theorem dX6_isOfKind_27 : decode cX6_isOfKind 27 = .ok (.iload_n 2, 1) := by decide +kernel
theorem dX6_isOfKind_28 : decode cX6_isOfKind 28 = .ok (.iaload, 1) := by decide +kernel
theorem dX6_isOfKind_29 : decode cX6_isOfKind 29 = .ok (.istore_n 2, 1) := by decide +kernel
theorem dX6_isOfKind_30 : decode cX6_isOfKind 30 = .ok (.iinc 3 1, 3) := by decide +kernel
theorem dX6_isOfKind_33 : decode cX6_isOfKind 33 = .ok (.goto (-29), 3) := by decide +kernel
theorem dX6_isOfKind_36 : decode cX6_isOfKind 36 = .ok (.iload_n 2, 1) := by decide +kernel
theorem dX6_isOfKind_37 : decode cX6_isOfKind 37 = .ok (.iload_n 1, 1) := by decide +kernel
theorem dX6_isOfKind_38 : decode cX6_isOfKind 38 = .ok (.if_icmp .ne 7, 3) := by decide +kernel
theorem dX6_isOfKind_41 : decode cX6_isOfKind 41 = .ok (.iconst 1, 1) := by decide +kernel
theorem dX6_isOfKind_42 : decode cX6_isOfKind 42 = .ok (.goto 4, 3) := by decide +kernel
theorem dX6_isOfKind_45 : decode cX6_isOfKind 45 = .ok (.iconst 0, 1) := by decide +kernel
theorem dX6_isOfKind_46 : decode cX6_isOfKind 46 = .ok (.ireturn, 1) := by decide +kernel
theorem dX6_bodyFor_0 : decode cX6_bodyFor 0 = .ok (.iload_n 1, 1) := by decide +kernel
theorem dX6_bodyFor_1 : decode cX6_bodyFor 1 = .ok (.istore_n 2, 1) := by decide +kernel
theorem dX6_bodyFor_2 : decode cX6_bodyFor 2 = .ok (.iconst 0, 1) := by decide +kernel
theorem dX6_bodyFor_3 : decode cX6_bodyFor 3 = .ok (.istore_n 3, 1) := by decide +kernel
theorem dX6_bodyFor_4 : decode cX6_bodyFor 4 = .ok (.iload_n 3, 1) := by decide +kernel
theorem dX6_bodyFor_5 : decode cX6_bodyFor 5 = .ok (.bipush 6, 2) := by decide +kernel
theorem dX6_bodyFor_7 : decode cX6_bodyFor 7 = .ok (.if_icmp .ge 34, 3) := by decide +kernel
theorem dX6_bodyFor_10 : decode cX6_bodyFor 10 = .ok (.iload_n 2, 1) := by decide +kernel
theorem dX6_bodyFor_11 : decode cX6_bodyFor 11 = .ok (.iconst 0, 1) := by decide +kernel
theorem dX6_bodyFor_12 : decode cX6_bodyFor 12 = .ok (.iconst 5, 1) := by decide +kernel
theorem dX6_bodyFor_13 : decode cX6_bodyFor 13 = .ok (.invokestatic 59, 3) := by decide +kernel
theorem dX6_bodyFor_16 : decode cX6_bodyFor 16 = .ok (.ifCond .eq 25, 3) := by decide +kernel
theorem dX6_bodyFor_19 : decode cX6_bodyFor 19 = .ok (.aload_n 0, 1) := by decide +kernel
theorem dX6_bodyFor_20 : decode cX6_bodyFor 20 = .ok (.iload_n 2, 1) := by decide +kernel
theorem dX6_bodyFor_21 : decode cX6_bodyFor 21 = .ok (.iaload, 1) := by decide +kernel
theorem dX6_bodyFor_22 : decode cX6_bodyFor 22 = .ok (.ifCond .eq 7, 3) := by decide +kernel
theorem dX6_bodyFor_25 : decode cX6_bodyFor 25 = .ok (.aload_n 0, 1) := by decide +kernel
theorem dX6_bodyFor_26 : decode cX6_bodyFor 26 = .ok (.iload_n 2, 1) := by decide +kernel
theorem dX6_bodyFor_27 : decode cX6_bodyFor 27 = .ok (.iaload, 1) := by decide +kernel
theorem dX6_bodyFor_28 : decode cX6_bodyFor 28 = .ok (.ireturn, 1) := by decide +kernel
theorem dX6_bodyFor_29 : decode cX6_bodyFor 29 = .ok (.getstatic 254, 3) := by decide +kernel
theorem dX6_bodyFor_32 : decode cX6_bodyFor 32 = .ok (.iload_n 2, 1) := by decide +kernel
theorem dX6_bodyFor_33 : decode cX6_bodyFor 33 = .ok (.iaload, 1) := by decide +kernel
theorem dX6_bodyFor_34 : decode cX6_bodyFor 34 = .ok (.istore_n 2, 1) := by decide +kernel
theorem dX6_bodyFor_35 : decode cX6_bodyFor 35 = .ok (.iinc 3 1, 3) := by decide +kernel
theorem dX6_bodyFor_38 : decode cX6_bodyFor 38 = .ok (.goto (-34), 3) := by decide +kernel
theorem dX6_bodyFor_41 : decode cX6_bodyFor 41 = .ok (.aload_n 0, 1) := by decide +kernel
theorem dX6_bodyFor_42 : decode cX6_bodyFor 42 = .ok (.iconst 0, 1) := by decide +kernel
theorem dX6_bodyFor_43 : decode cX6_bodyFor 43 = .ok (.iaload, 1) := by decide +kernel
theorem dX6_bodyFor_44 : decode cX6_bodyFor 44 = .ok (.ireturn, 1) := by decide +kernel
end
section
theorem dX7_init_0 : decode cX7_init 0 = .ok (.aload_n 0, 1) := by decide +kernel
theorem dX7_init_1 : decode cX7_init 1 = .ok (.invokespecial 1, 3) := by decide +kernel
theorem dX7_init_4 : decode cX7_init 4 = .ok (.aload_n 0, 1) := by decide +kernel
theorem dX7_init_5 : decode cX7_init 5 = .ok (.bipush 8, 2) := by decide +kernel
theorem dX7_init_7 : decode cX7_init 7 = .ok (.newarray .int, 2) := by decide +kernel
theorem dX7_init_9 : decode cX7_init 9 = .ok (.dup, 1) := by decide +kernel
theorem dX7_init_10 : decode cX7_init 10 = .ok (.iconst 0, 1) := by decide +kernel
theorem dX7_init_11 : decode cX7_init 11 = .ok (.iconst (-1), 1) := by decide +kernel
theorem dX7_init_12 : decode cX7_init 12 = .ok (.iastore, 1) := by decide +kernel
theorem dX7_init_13 : decode cX7_init 13 = .ok (.dup, 1) := by decide +kernel
theorem dX7_init_14 : decode cX7_init 14 = .ok (.iconst 1, 1) := by decide +kernel
theorem dX7_init_15 : decode cX7_init 15 = .ok (.iconst (-1), 1) := by decide +kernel
theorem dX7_init_16 : decode cX7_init 16 = .ok (.iastore, 1) := by decide +kernel
theorem dX7_init_17 : decode cX7_init 17 = .ok (.dup, 1) := by decide +kernel
theorem dX7_init_18 : decode cX7_init 18 = .ok (.iconst 2, 1) := by decide +kernel
theorem dX7_init_19 : decode cX7_init 19 = .ok (.iconst (-1), 1) := by decide +kernel
theorem dX7_init_20 : decode cX7_init 20 = .ok (.iastore, 1) := by decide +kernel
theorem dX7_init_21 : decode cX7_init 21 = .ok (.dup, 1) := by decide +kernel
theorem dX7_init_22 : decode cX7_init 22 = .ok (.iconst 3, 1) := by decide +kernel
theorem dX7_init_23 : decode cX7_init 23 = .ok (.iconst (-1), 1) := by decide +kernel
theorem dX7_init_24 : decode cX7_init 24 = .ok (.iastore, 1) := by decide +kernel
theorem dX7_init_25 : decode cX7_init 25 = .ok (.dup, 1) := by decide +kernel
theorem dX7_init_26 : decode cX7_init 26 = .ok (.iconst 4, 1) := by decide +kernel
theorem dX7_init_27 : decode cX7_init 27 = .ok (.iconst (-1), 1) := by decide +kernel
theorem dX7_init_28 : decode cX7_init 28 = .ok (.iastore, 1) := by decide +kernel
theorem dX7_init_29 : decode cX7_init 29 = .ok (.dup, 1) := by decide +kernel
theorem dX7_init_30 : decode cX7_init 30 = .ok (.iconst 5, 1) := by decide +kernel
theorem dX7_init_31 : decode cX7_init 31 = .ok (.iconst (-1), 1) := by decide +kernel
theorem dX7_init_32 : decode cX7_init 32 = .ok (.iastore, 1) := by decide +kernel
theorem dX7_init_33 : decode cX7_init 33 = .ok (.dup, 1) := by decide +kernel
theorem dX7_init_34 : decode cX7_init 34 = .ok (.bipush 6, 2) := by decide +kernel
theorem dX7_init_36 : decode cX7_init 36 = .ok (.iconst (-1), 1) := by decide +kernel
theorem dX7_init_37 : decode cX7_init 37 = .ok (.iastore, 1) := by decide +kernel
theorem dX7_init_38 : decode cX7_init 38 = .ok (.dup, 1) := by decide +kernel
theorem dX7_init_39 : decode cX7_init 39 = .ok (.bipush 7, 2) := by decide +kernel
theorem dX7_init_41 : decode cX7_init 41 = .ok (.iconst (-1), 1) := by decide +kernel
theorem dX7_init_42 : decode cX7_init 42 = .ok (.iastore, 1) := by decide +kernel
theorem dX7_init_43 : decode cX7_init 43 = .ok (.putfield 7, 3) := by decide +kernel
theorem dX7_init_46 : decode cX7_init 46 = .ok (.aload_n 0, 1) := by decide +kernel
theorem dX7_init_47 : decode cX7_init 47 = .ok (.bipush 8, 2) := by decide +kernel
theorem dX7_init_49 : decode cX7_init 49 = .ok (.newarray .int, 2) := by decide +kernel
theorem dX7_init_51 : decode cX7_init 51 = .ok (.putfield 13, 3) := by decide +kernel
theorem dX7_init_54 : decode cX7_init 54 = .ok (.aload_n 0, 1) := by decide +kernel
theorem dX7_init_55 : decode cX7_init 55 = .ok (.sipush 320, 3) := by decide +kernel
theorem dX7_init_58 : decode cX7_init 58 = .ok (.newarray .int, 2) := by decide +kernel
theorem dX7_init_60 : decode cX7_init 60 = .ok (.putfield 16, 3) := by decide +kernel
theorem dX7_init_63 : decode cX7_init 63 = .ok (.aload_n 0, 1) := by decide +kernel
theorem dX7_init_64 : decode cX7_init 64 = .ok (.bipush 44, 2) := by decide +kernel
theorem dX7_init_66 : decode cX7_init 66 = .ok (.newarray .int, 2) := by decide +kernel
theorem dX7_init_68 : decode cX7_init 68 = .ok (.putfield 19, 3) := by decide +kernel
theorem dX7_init_71 : decode cX7_init 71 = .ok (.aload_n 0, 1) := by decide +kernel
theorem dX7_init_72 : decode cX7_init 72 = .ok (.bipush 44, 2) := by decide +kernel
theorem dX7_init_74 : decode cX7_init 74 = .ok (.newarray .int, 2) := by decide +kernel
theorem dX7_init_76 : decode cX7_init 76 = .ok (.putfield 22, 3) := by decide +kernel
theorem dX7_init_79 : decode cX7_init 79 = .ok (.aload_n 0, 1) := by decide +kernel
theorem dX7_init_80 : decode cX7_init 80 = .ok (.sipush 1056, 3) := by decide +kernel
theorem dX7_init_83 : decode cX7_init 83 = .ok (.newarray .int, 2) := by decide +kernel
theorem dX7_init_85 : decode cX7_init 85 = .ok (.putfield 25, 3) := by decide +kernel
theorem dX7_init_88 : decode cX7_init 88 = .ok (.aload_n 0, 1) := by decide +kernel
theorem dX7_init_89 : decode cX7_init 89 = .ok (.sipush 400, 3) := by decide +kernel
theorem dX7_init_92 : decode cX7_init 92 = .ok (.newarray .int, 2) := by decide +kernel
theorem dX7_init_94 : decode cX7_init 94 = .ok (.putfield 28, 3) := by decide +kernel
theorem dX7_init_97 : decode cX7_init 97 = .ok (.aload_n 0, 1) := by decide +kernel
theorem dX7_init_98 : decode cX7_init 98 = .ok (.bipush 7, 2) := by decide +kernel
theorem dX7_init_100 : decode cX7_init 100 = .ok (.newarray .int, 2) := by decide +kernel
theorem dX7_init_102 : decode cX7_init 102 = .ok (.putfield 31, 3) := by decide +kernel
theorem dX7_init_105 : decode cX7_init 105 = .ok (.aload_n 0, 1) := by decide +kernel
theorem dX7_init_106 : decode cX7_init 106 = .ok (.bipush 7, 2) := by decide +kernel
theorem dX7_init_108 : decode cX7_init 108 = .ok (.newarray .int, 2) := by decide +kernel
theorem dX7_init_110 : decode cX7_init 110 = .ok (.putfield 34, 3) := by decide +kernel
theorem dX7_init_113 : decode cX7_init 113 = .ok (.aload_n 0, 1) := by decide +kernel
theorem dX7_init_114 : decode cX7_init 114 = .ok (.bipush 7, 2) := by decide +kernel
theorem dX7_init_116 : decode cX7_init 116 = .ok (.newarray .int, 2) := by decide +kernel
theorem dX7_init_118 : decode cX7_init 118 = .ok (.putfield 37, 3) := by decide +kernel
theorem dX7_init_121 : decode cX7_init 121 = .ok (.aload_n 0, 1) := by decide +kernel
theorem dX7_init_122 : decode cX7_init 122 = .ok (.bipush 7, 2) := by decide +kernel
theorem dX7_init_124 : decode cX7_init 124 = .ok (.newarray .int, 2) := by decide +kernel
theorem dX7_init_126 : decode cX7_init 126 = .ok (.putfield 40, 3) := by decide +kernel
theorem dX7_init_129 : decode cX7_init 129 = .ok (.aload_n 0, 1) := by decide +kernel
theorem dX7_init_130 : decode cX7_init 130 = .ok (.bipush 7, 2) := by decide +kernel
theorem dX7_init_132 : decode cX7_init 132 = .ok (.newarray .int, 2) := by decide +kernel
theorem dX7_init_134 : decode cX7_init 134 = .ok (.putfield 43, 3) := by decide +kernel
theorem dX7_init_137 : decode cX7_init 137 = .ok (.aload_n 0, 1) := by decide +kernel
theorem dX7_init_138 : decode cX7_init 138 = .ok (.bipush 7, 2) := by decide +kernel
theorem dX7_init_140 : decode cX7_init 140 = .ok (.newarray .int, 2) := by decide +kernel
theorem dX7_init_142 : decode cX7_init 142 = .ok (.putfield 46, 3) := by decide +kernel
theorem dX7_init_145 : decode cX7_init 145 = .ok (.aload_n 0, 1) := by decide +kernel
theorem dX7_init_146 : decode cX7_init 146 = .ok (.bipush 12, 2) := by decide +kernel
theorem dX7_init_148 : decode cX7_init 148 = .ok (.newarray .int, 2) := by decide +kernel
theorem dX7_init_150 : decode cX7_init 150 = .ok (.putfield 49, 3) := by decide +kernel
theorem dX7_init_153 : decode cX7_init 153 = .ok (.aload_n 0, 1) := by decide +kernel
theorem dX7_init_154 : decode cX7_init 154 = .ok (.bipush 7, 2) := by decide +kernel
theorem dX7_init_156 : decode cX7_init 156 = .ok (.newarray .int, 2) := by decide +kernel
theorem dX7_init_158 : decode cX7_init 158 = .ok (.putfield 52, 3) := by decide +kernel
theorem dX7_init_161 : decode cX7_init 161 = .ok (.aload_n 0, 1) := by decide +kernel
theorem dX7_init_162 : decode cX7_init 162 = .ok (.iconst 2, 1) := by decide +kernel
theorem dX7_init_163 : decode cX7_init 163 = .ok (.newarray .boolean, 2) := by decide +kernel
theorem dX7_init_165 : decode cX7_init 165 = .ok (.putfield 55, 3) := by decide +kernel
theorem dX7_init_168 : decode cX7_init 168 = .ok (.aload_n 0, 1) := by decide +kernel
theorem dX7_init_169 : decode cX7_init 169 = .ok (.bipush 88, 2) := by decide +kernel
theorem dX7_init_171 : decode cX7_init 171 = .ok (.newarray .int, 2) := by decide +kernel
theorem dX7_init_173 : decode cX7_init 173 = .ok (.putfield 59, 3) := by decide +kernel
theorem dX7_init_176 : decode cX7_init 176 = .ok (.aload_n 0, 1) := by decide +kernel
theorem dX7_init_177 : decode cX7_init 177 = .ok (.bipush 16, 2) := by decide +kernel
theorem dX7_init_179 : decode cX7_init 179 = .ok (.newarray .int, 2) := by decide +kernel
theorem dX7_init_181 : decode cX7_init 181 = .ok (.putfield 62, 3) := by decide +kernel
theorem dX7_init_184 : decode cX7_init 184 = .ok (.return_, 1) := by decide +kernel
theorem dX7_in_0 : decode cX7_in 0 = .ok (.lload_n 0, 1) := by decide +kernel
theorem dX7_in_1 : decode cX7_in 1 = .ok (.lload_n 2, 1) := by decide +kernel
theorem dX7_in_2 : decode cX7_in 2 = .ok (.lcmp, 1) := by decide +kernel
theorem dX7_in_3 : decode cX7_in 3 = .ok (.ifCond .lt 14, 3) := by decide +kernel
theorem dX7_in_6 : decode cX7_in 6 = .ok (.lload_n 0, 1) := by decide +kernel
theorem dX7_in_7 : decode cX7_in 7 = .ok (.lload 4, 2) := by decide +kernel
theorem dX7_in_9 : decode cX7_in 9 = .ok (.lcmp, 1) := by decide +kernel
theorem dX7_in_10 : decode cX7_in 10 = .ok (.ifCond .gt 7, 3) := by decide +kernel
theorem dX7_in_13 : decode cX7_in 13 = .ok (.iconst 1, 1) := by decide +kernel
theorem dX7_in_14 : decode cX7_in 14 = .ok (.goto 4, 3) := by decide +kernel
theorem dX7_in_17 : decode cX7_in 17 = .ok (.iconst 0, 1) := by decide +kernel
theorem dX7_in_18 : decode cX7_in 18 = .ok (.ireturn, 1) := by decide +kernel
theorem dX7_finding_0 : decode cX7_finding 0 = .ok (.aload_n 0, 1) := by decide +kernel
theorem dX7_finding_1 : decode cX7_finding 1 = .ok (.iload_n 1, 1) := by decide +kernel
theorem dX7_finding_2 : decode cX7_finding 2 = .ok (.putfield 69, 3) := by decide +kernel
theorem dX7_finding_5 : decode cX7_finding 5 = .ok (.ldc 72, 2) := by decide +kernel
theorem dX7_finding_7 : decode cX7_finding 7 = .ok (.iload_n 1, 1) := by decide +kernel
theorem dX7_finding_8 : decode cX7_finding 8 = .ok (.isub, 1) := by decide +kernel
theorem dX7_finding_9 : decode cX7_finding 9 = .ok (.ireturn, 1) := by decide +kernel
theorem dX7_isRow_0 : decode cX7_isRow 0 = .ok (.iload_n 0, 1) := by decide +kernel
theorem dX7_isRow_1 : decode cX7_isRow 1 = .ok (.i2l, 1) := by decide +kernel
theorem dX7_isRow_2 : decode cX7_isRow 2 = .ok (.lconst 0, 1) := by decide +kernel
theorem dX7_isRow_3 : decode cX7_isRow 3 = .ok (.ldc2_w 73, 3) := by decide +kernel
theorem dX7_isRow_6 : decode cX7_isRow 6 = .ok (.invokestatic 75, 3) := by decide +kernel
theorem dX7_isRow_9 : decode cX7_isRow 9 = .ok (.ireturn, 1) := by decide +kernel
theorem dX7_row_0 : decode cX7_row 0 = .ok (.aload_n 0, 1) := by decide +kernel
theorem dX7_row_1 : decode cX7_row 1 = .ok (.iconst 0, 1) := by decide +kernel
theorem dX7_row_2 : decode cX7_row 2 = .ok (.putfield 65, 3) := by decide +kernel
theorem dX7_row_5 : decode cX7_row 5 = .ok (.iload_n 1, 1) := by decide +kernel
theorem dX7_row_6 : decode cX7_row 6 = .ok (.invokestatic 79, 3) := by decide +kernel
theorem dX7_row_9 : decode cX7_row 9 = .ok (.ifCond .eq 21, 3) := by decide +kernel
theorem dX7_row_12 : decode cX7_row 12 = .ok (.iload_n 2, 1) := by decide +kernel
theorem dX7_row_13 : decode cX7_row 13 = .ok (.i2l, 1) := by decide +kernel
theorem dX7_row_14 : decode cX7_row 14 = .ok (.lconst 0, 1) := by decide +kernel
theorem dX7_row_15 : decode cX7_row 15 = .ok (.ldc2_w 83, 3) := by decide +kernel
theorem dX7_row_18 : decode cX7_row 18 = .ok (.invokestatic 75, 3) := by decide +kernel
theorem dX7_row_21 : decode cX7_row 21 = .ok (.ifCond .eq 9, 3) := by decide +kernel
theorem dX7_row_24 : decode cX7_row 24 = .ok (.iload_n 3, 1) := by decide +kernel
theorem dX7_row_25 : decode cX7_row 25 = .ok (.bipush 40, 2) := by decide +kernel
theorem dX7_row_27 : decode cX7_row 27 = .ok (.if_icmp .le 6, 3) := by decide +kernel
theorem dX7_row_30 : decode cX7_row 30 = .ok (.ldc 85, 2) := by decide +kernel
theorem dX7_row_32 : decode cX7_row 32 = .ok (.ireturn, 1) := by decide +kernel
theorem dX7_row_33 : decode cX7_row 33 = .ok (.aload_n 0, 1) := by decide +kernel
theorem dX7_row_34 : decode cX7_row 34 = .ok (.iconst 0, 1) := by decide +kernel
theorem dX7_row_35 : decode cX7_row 35 = .ok (.putfield 69, 3) := by decide +kernel
theorem dX7_row_38 : decode cX7_row 38 = .ok (.iload_n 3, 1) := by decide +kernel
theorem dX7_row_39 : decode cX7_row 39 = .ok (.ifCond .ge 9, 3) := by decide +kernel
theorem dX7_row_42 : decode cX7_row 42 = .ok (.aload_n 0, 1) := by decide +kernel
theorem dX7_row_43 : decode cX7_row 43 = .ok (.iconst 4, 1) := by decide +kernel
theorem dX7_row_44 : decode cX7_row 44 = .ok (.invokevirtual 86, 3) := by decide +kernel
theorem dX7_row_47 : decode cX7_row 47 = .ok (.ireturn, 1) := by decide +kernel
theorem dX7_row_48 : decode cX7_row 48 = .ok (.aload_n 0, 1) := by decide +kernel
theorem dX7_row_49 : decode cX7_row 49 = .ok (.getfield 7, 3) := by decide +kernel
theorem dX7_row_52 : decode cX7_row 52 = .ok (.iload_n 1, 1) := by decide +kernel
theorem dX7_row_53 : decode cX7_row 53 = .ok (.iload_n 2, 1) := by decide +kernel
theorem dX7_row_54 : decode cX7_row 54 = .ok (.iastore, 1) := by decide +kernel
theorem dX7_row_55 : decode cX7_row 55 = .ok (.aload_n 0, 1) := by decide +kernel
theorem dX7_row_56 : decode cX7_row 56 = .ok (.getfield 13, 3) := by decide +kernel
theorem dX7_row_59 : decode cX7_row 59 = .ok (.iload_n 1, 1) := by decide +kernel
theorem dX7_row_60 : decode cX7_row 60 = .ok (.iload_n 3, 1) := by decide +kernel
theorem dX7_row_61 : decode cX7_row 61 = .ok (.iastore, 1) := by decide +kernel
theorem dX7_row_62 : decode cX7_row 62 = .ok (.iconst 0, 1) := by decide +kernel
theorem dX7_row_63 : decode cX7_row 63 = .ok (.istore 4, 2) := by decide +kernel
theorem dX7_row_65 : decode cX7_row 65 = .ok (.iload 4, 2) := by decide +kernel
theorem dX7_row_67 : decode cX7_row 67 = .ok (.bipush 40, 2) := by decide +kernel
theorem dX7_row_69 : decode cX7_row 69 = .ok (.if_icmp .ge 22, 3) := by decide +kernel
theorem dX7_row_72 : decode cX7_row 72 = .ok (.aload_n 0, 1) := by decide +kernel
theorem dX7_row_73 : decode cX7_row 73 = .ok (.getfield 16, 3) := by decide +kernel
theorem dX7_row_76 : decode cX7_row 76 = .ok (.bipush 40, 2) := by decide +kernel
theorem dX7_row_78 : decode cX7_row 78 = .ok (.iload_n 1, 1) := by decide +kernel
theorem dX7_row_79 : decode cX7_row 79 = .ok (.imul, 1) := by decide +kernel
theorem dX7_row_80 : decode cX7_row 80 = .ok (.iload 4, 2) := by decide +kernel
theorem dX7_row_82 : decode cX7_row 82 = .ok (.iadd, 1) := by decide +kernel
theorem dX7_row_83 : decode cX7_row 83 = .ok (.iconst 0, 1) := by decide +kernel
theorem dX7_row_84 : decode cX7_row 84 = .ok (.iastore, 1) := by decide +kernel
theorem dX7_row_85 : decode cX7_row 85 = .ok (.iinc 4 1, 3) := by decide +kernel
theorem dX7_row_88 : decode cX7_row 88 = .ok (.goto (-23), 3) := by decide +kernel
theorem dX7_row_91 : decode cX7_row 91 = .ok (.iload_n 3, 1) := by decide +kernel
theorem dX7_row_92 : decode cX7_row 92 = .ok (.ireturn, 1) := by decide +kernel
theorem dX7_set_0 : decode cX7_set 0 = .ok (.aload_n 0, 1) := by decide +kernel
theorem dX7_set_1 : decode cX7_set 1 = .ok (.iconst 0, 1) := by decide +kernel
theorem dX7_set_2 : decode cX7_set 2 = .ok (.putfield 65, 3) := by decide +kernel
theorem dX7_set_5 : decode cX7_set 5 = .ok (.iload_n 1, 1) := by decide +kernel
theorem dX7_set_6 : decode cX7_set 6 = .ok (.invokestatic 79, 3) := by decide +kernel
theorem dX7_set_9 : decode cX7_set 9 = .ok (.ifCond .ne 6, 3) := by decide +kernel
theorem dX7_set_12 : decode cX7_set 12 = .ok (.ldc 85, 2) := by decide +kernel
theorem dX7_set_14 : decode cX7_set 14 = .ok (.ireturn, 1) := by decide +kernel
theorem dX7_set_15 : decode cX7_set 15 = .ok (.aload_n 0, 1) := by decide +kernel
theorem dX7_set_16 : decode cX7_set 16 = .ok (.iconst 0, 1) := by decide +kernel
theorem dX7_set_17 : decode cX7_set 17 = .ok (.putfield 69, 3) := by decide +kernel
theorem dX7_set_20 : decode cX7_set 20 = .ok (.aload_n 0, 1) := by decide +kernel
theorem dX7_set_21 : decode cX7_set 21 = .ok (.getfield 7, 3) := by decide +kernel
theorem dX7_set_24 : decode cX7_set 24 = .ok (.iload_n 1, 1) := by decide +kernel
theorem dX7_set_25 : decode cX7_set 25 = .ok (.iaload, 1) := by decide +kernel
theorem dX7_set_26 : decode cX7_set 26 = .ok (.ifCond .ge 9, 3) := by decide +kernel
theorem dX7_set_29 : decode cX7_set 29 = .ok (.aload_n 0, 1) := by decide +kernel
theorem dX7_set_30 : decode cX7_set 30 = .ok (.iconst 1, 1) := by decide +kernel
theorem dX7_set_31 : decode cX7_set 31 = .ok (.invokevirtual 86, 3) := by decide +kernel
theorem dX7_set_34 : decode cX7_set 34 = .ok (.ireturn, 1) := by decide +kernel
theorem dX7_set_35 : decode cX7_set 35 = .ok (.iload_n 2, 1) := by decide +kernel
theorem dX7_set_36 : decode cX7_set 36 = .ok (.i2l, 1) := by decide +kernel
theorem dX7_set_37 : decode cX7_set 37 = .ok (.lconst 0, 1) := by decide +kernel
theorem dX7_set_38 : decode cX7_set 38 = .ok (.aload_n 0, 1) := by decide +kernel
theorem dX7_set_39 : decode cX7_set 39 = .ok (.getfield 13, 3) := by decide +kernel
theorem dX7_set_42 : decode cX7_set 42 = .ok (.iload_n 1, 1) := by decide +kernel
theorem dX7_set_43 : decode cX7_set 43 = .ok (.iaload, 1) := by decide +kernel
theorem dX7_set_44 : decode cX7_set 44 = .ok (.iconst 1, 1) := by decide +kernel
theorem dX7_set_45 : decode cX7_set 45 = .ok (.isub, 1) := by decide +kernel
theorem dX7_set_46 : decode cX7_set 46 = .ok (.i2l, 1) := by decide +kernel
theorem dX7_set_47 : decode cX7_set 47 = .ok (.invokestatic 75, 3) := by decide +kernel
theorem dX7_set_50 : decode cX7_set 50 = .ok (.ifCond .ne 9, 3) := by decide +kernel
theorem dX7_set_53 : decode cX7_set 53 = .ok (.aload_n 0, 1) := by decide +kernel
theorem dX7_set_54 : decode cX7_set 54 = .ok (.iconst 2, 1) := by decide +kernel
theorem dX7_set_55 : decode cX7_set 55 = .ok (.invokevirtual 86, 3) := by decide +kernel
theorem dX7_set_58 : decode cX7_set 58 = .ok (.ireturn, 1) := by decide +kernel
theorem dX7_set_59 : decode cX7_set 59 = .ok (.aload_n 0, 1) := by decide +kernel
theorem dX7_set_60 : decode cX7_set 60 = .ok (.getfield 16, 3) := by decide +kernel
theorem dX7_set_63 : decode cX7_set 63 = .ok (.bipush 40, 2) := by decide +kernel
theorem dX7_set_65 : decode cX7_set 65 = .ok (.iload_n 1, 1) := by decide +kernel
theorem dX7_set_66 : decode cX7_set 66 = .ok (.imul, 1) := by decide +kernel
theorem dX7_set_67 : decode cX7_set 67 = .ok (.iload_n 2, 1) := by decide +kernel
theorem dX7_set_68 : decode cX7_set 68 = .ok (.iadd, 1) := by decide +kernel
theorem dX7_set_69 : decode cX7_set 69 = .ok (.aload_n 0, 1) := by decide +kernel
theorem dX7_set_70 : decode cX7_set 70 = .ok (.getfield 7, 3) := by decide +kernel
theorem dX7_set_73 : decode cX7_set 73 = .ok (.iload_n 1, 1) := by decide +kernel
theorem dX7_set_74 : decode cX7_set 74 = .ok (.iaload, 1) := by decide +kernel
theorem dX7_set_75 : decode cX7_set 75 = .ok (.ifCond .ne 8, 3) := by decide +kernel
theorem dX7_set_78 : decode cX7_set 78 = .ok (.iload_n 3, 1) := by decide +kernel
theorem dX7_set_79 : decode cX7_set 79 = .ok (.i2b, 1) := by decide +kernel
theorem dX7_set_80 : decode cX7_set 80 = .ok (.goto 19, 3) := by decide +kernel
theorem dX7_set_83 : decode cX7_set 83 = .ok (.aload_n 0, 1) := by decide +kernel
theorem dX7_set_84 : decode cX7_set 84 = .ok (.getfield 7, 3) := by decide +kernel
theorem dX7_set_87 : decode cX7_set 87 = .ok (.iload_n 1, 1) := by decide +kernel
theorem dX7_set_88 : decode cX7_set 88 = .ok (.iaload, 1) := by decide +kernel
theorem dX7_set_89 : decode cX7_set 89 = .ok (.iconst 1, 1) := by decide +kernel
theorem dX7_set_90 : decode cX7_set 90 = .ok (.if_icmp .ne 8, 3) := by decide +kernel
theorem dX7_set_93 : decode cX7_set 93 = .ok (.iload_n 3, 1) := by decide +kernel
theorem dX7_set_94 : decode cX7_set 94 = .ok (.i2s, 1) := by decide +kernel
theorem dX7_set_95 : decode cX7_set 95 = .ok (.goto 4, 3) := by decide +kernel
theorem dX7_set_98 : decode cX7_set 98 = .ok (.iload_n 3, 1) := by decide +kernel
theorem dX7_set_99 : decode cX7_set 99 = .ok (.iastore, 1) := by decide +kernel
theorem dX7_set_100 : decode cX7_set 100 = .ok (.aload_n 0, 1) := by decide +kernel
theorem dX7_set_101 : decode cX7_set 101 = .ok (.getfield 16, 3) := by decide +kernel
theorem dX7_set_104 : decode cX7_set 104 = .ok (.bipush 40, 2) := by decide +kernel
theorem dX7_set_106 : decode cX7_set 106 = .ok (.iload_n 1, 1) := by decide +kernel
theorem dX7_set_107 : decode cX7_set 107 = .ok (.imul, 1) := by decide +kernel
theorem dX7_set_108 : decode cX7_set 108 = .ok (.iload_n 2, 1) := by decide +kernel
theorem dX7_set_109 : decode cX7_set 109 = .ok (.iadd, 1) := by decide +kernel
theorem dX7_set_110 : decode cX7_set 110 = .ok (.iaload, 1) := by decide +kernel
theorem dX7_set_111 : decode cX7_set 111 = .ok (.ireturn, 1) := by decide +kernel
theorem dX7_copy_0 : decode cX7_copy 0 = .ok (.aload_n 0, 1) := by decide +kernel
theorem dX7_copy_1 : decode cX7_copy 1 = .ok (.iconst 0, 1) := by decide +kernel
theorem dX7_copy_2 : decode cX7_copy 2 = .ok (.putfield 65, 3) := by decide +kernel
theorem dX7_copy_5 : decode cX7_copy 5 = .ok (.iload_n 1, 1) := by decide +kernel
theorem dX7_copy_6 : decode cX7_copy 6 = .ok (.invokestatic 79, 3) := by decide +kernel
theorem dX7_copy_9 : decode cX7_copy 9 = .ok (.ifCond .eq 10, 3) := by decide +kernel
theorem dX7_copy_12 : decode cX7_copy 12 = .ok (.iload_n 3, 1) := by decide +kernel
theorem dX7_copy_13 : decode cX7_copy 13 = .ok (.invokestatic 79, 3) := by decide +kernel
theorem dX7_copy_16 : decode cX7_copy 16 = .ok (.ifCond .ne 6, 3) := by decide +kernel
theorem dX7_copy_19 : decode cX7_copy 19 = .ok (.ldc 85, 2) := by decide +kernel
theorem dX7_copy_21 : decode cX7_copy 21 = .ok (.ireturn, 1) := by decide +kernel
theorem dX7_copy_22 : decode cX7_copy 22 = .ok (.aload_n 0, 1) := by decide +kernel
theorem dX7_copy_23 : decode cX7_copy 23 = .ok (.iconst 0, 1) := by decide +kernel
theorem dX7_copy_24 : decode cX7_copy 24 = .ok (.putfield 69, 3) := by decide +kernel
theorem dX7_copy_27 : decode cX7_copy 27 = .ok (.aload_n 0, 1) := by decide +kernel
theorem dX7_copy_28 : decode cX7_copy 28 = .ok (.getfield 7, 3) := by decide +kernel
theorem dX7_copy_31 : decode cX7_copy 31 = .ok (.iload_n 1, 1) := by decide +kernel
theorem dX7_copy_32 : decode cX7_copy 32 = .ok (.iaload, 1) := by decide +kernel
theorem dX7_copy_33 : decode cX7_copy 33 = .ok (.ifCond .lt 12, 3) := by decide +kernel
theorem dX7_copy_36 : decode cX7_copy 36 = .ok (.aload_n 0, 1) := by decide +kernel
theorem dX7_copy_37 : decode cX7_copy 37 = .ok (.getfield 7, 3) := by decide +kernel
theorem dX7_copy_40 : decode cX7_copy 40 = .ok (.iload_n 3, 1) := by decide +kernel
theorem dX7_copy_41 : decode cX7_copy 41 = .ok (.iaload, 1) := by decide +kernel
theorem dX7_copy_42 : decode cX7_copy 42 = .ok (.ifCond .ge 9, 3) := by decide +kernel
theorem dX7_copy_45 : decode cX7_copy 45 = .ok (.aload_n 0, 1) := by decide +kernel
theorem dX7_copy_46 : decode cX7_copy 46 = .ok (.iconst 1, 1) := by decide +kernel
theorem dX7_copy_47 : decode cX7_copy 47 = .ok (.invokevirtual 86, 3) := by decide +kernel
theorem dX7_copy_50 : decode cX7_copy 50 = .ok (.ireturn, 1) := by decide +kernel
theorem dX7_copy_51 : decode cX7_copy 51 = .ok (.aload_n 0, 1) := by decide +kernel
theorem dX7_copy_52 : decode cX7_copy 52 = .ok (.getfield 7, 3) := by decide +kernel
theorem dX7_copy_55 : decode cX7_copy 55 = .ok (.iload_n 1, 1) := by decide +kernel
theorem dX7_copy_56 : decode cX7_copy 56 = .ok (.iaload, 1) := by decide +kernel
theorem dX7_copy_57 : decode cX7_copy 57 = .ok (.aload_n 0, 1) := by decide +kernel
theorem dX7_copy_58 : decode cX7_copy 58 = .ok (.getfield 7, 3) := by decide +kernel
theorem dX7_copy_61 : decode cX7_copy 61 = .ok (.iload_n 3, 1) := by decide +kernel
theorem dX7_copy_62 : decode cX7_copy 62 = .ok (.iaload, 1) := by decide +kernel
theorem dX7_copy_63 : decode cX7_copy 63 = .ok (.if_icmp .eq 9, 3) := by decide +kernel
theorem dX7_copy_66 : decode cX7_copy 66 = .ok (.aload_n 0, 1) := by decide +kernel
theorem dX7_copy_67 : decode cX7_copy 67 = .ok (.iconst 5, 1) := by decide +kernel
theorem dX7_copy_68 : decode cX7_copy 68 = .ok (.invokevirtual 86, 3) := by decide +kernel
theorem dX7_copy_71 : decode cX7_copy 71 = .ok (.ireturn, 1) := by decide +kernel
theorem dX7_copy_72 : decode cX7_copy 72 = .ok (.iload_n 2, 1) := by decide +kernel
theorem dX7_copy_73 : decode cX7_copy 73 = .ok (.ifCond .lt 48, 3) := by decide +kernel
theorem dX7_copy_76 : decode cX7_copy 76 = .ok (.iload 4, 2) := by decide +kernel
theorem dX7_copy_78 : decode cX7_copy 78 = .ok (.ifCond .lt 43, 3) := by decide +kernel
theorem dX7_copy_81 : decode cX7_copy 81 = .ok (.iload 5, 2) := by decide +kernel
theorem dX7_copy_83 : decode cX7_copy 83 = .ok (.ifCond .lt 38, 3) := by decide +kernel
theorem dX7_copy_86 : decode cX7_copy 86 = .ok (.iload_n 2, 1) := by decide +kernel
theorem dX7_copy_87 : decode cX7_copy 87 = .ok (.i2l, 1) := by decide +kernel
theorem dX7_copy_88 : decode cX7_copy 88 = .ok (.iload 5, 2) := by decide +kernel
theorem dX7_copy_90 : decode cX7_copy 90 = .ok (.i2l, 1) := by decide +kernel
theorem dX7_copy_91 : decode cX7_copy 91 = .ok (.ladd, 1) := by decide +kernel
theorem dX7_copy_92 : decode cX7_copy 92 = .ok (.aload_n 0, 1) := by decide +kernel
theorem dX7_copy_93 : decode cX7_copy 93 = .ok (.getfield 13, 3) := by decide +kernel
theorem dX7_copy_96 : decode cX7_copy 96 = .ok (.iload_n 1, 1) := by decide +kernel
theorem dX7_copy_97 : decode cX7_copy 97 = .ok (.iaload, 1) := by decide +kernel
theorem dX7_copy_98 : decode cX7_copy 98 = .ok (.i2l, 1) := by decide +kernel
theorem dX7_copy_99 : decode cX7_copy 99 = .ok (.lcmp, 1) := by decide +kernel
theorem dX7_copy_100 : decode cX7_copy 100 = .ok (.ifCond .gt 21, 3) := by decide +kernel
theorem dX7_copy_103 : decode cX7_copy 103 = .ok (.iload 4, 2) := by decide +kernel
theorem dX7_copy_105 : decode cX7_copy 105 = .ok (.i2l, 1) := by decide +kernel
theorem dX7_copy_106 : decode cX7_copy 106 = .ok (.iload 5, 2) := by decide +kernel
theorem dX7_copy_108 : decode cX7_copy 108 = .ok (.i2l, 1) := by decide +kernel
theorem dX7_copy_109 : decode cX7_copy 109 = .ok (.ladd, 1) := by decide +kernel
theorem dX7_copy_110 : decode cX7_copy 110 = .ok (.aload_n 0, 1) := by decide +kernel
theorem dX7_copy_111 : decode cX7_copy 111 = .ok (.getfield 13, 3) := by decide +kernel
theorem dX7_copy_114 : decode cX7_copy 114 = .ok (.iload_n 3, 1) := by decide +kernel
theorem dX7_copy_115 : decode cX7_copy 115 = .ok (.iaload, 1) := by decide +kernel
theorem dX7_copy_116 : decode cX7_copy 116 = .ok (.i2l, 1) := by decide +kernel
theorem dX7_copy_117 : decode cX7_copy 117 = .ok (.lcmp, 1) := by decide +kernel
theorem dX7_copy_118 : decode cX7_copy 118 = .ok (.ifCond .le 9, 3) := by decide +kernel
theorem dX7_copy_121 : decode cX7_copy 121 = .ok (.aload_n 0, 1) := by decide +kernel
theorem dX7_copy_122 : decode cX7_copy 122 = .ok (.iconst 2, 1) := by decide +kernel
theorem dX7_copy_123 : decode cX7_copy 123 = .ok (.invokevirtual 86, 3) := by decide +kernel
theorem dX7_copy_126 : decode cX7_copy 126 = .ok (.ireturn, 1) := by decide +kernel
theorem dX7_copy_127 : decode cX7_copy 127 = .ok (.iload_n 2, 1) := by decide +kernel
theorem dX7_copy_128 : decode cX7_copy 128 = .ok (.iload 4, 2) := by decide +kernel
theorem dX7_copy_130 : decode cX7_copy 130 = .ok (.if_icmp .lt 7, 3) := by decide +kernel
theorem dX7_copy_133 : decode cX7_copy 133 = .ok (.iconst 1, 1) := by decide +kernel
theorem dX7_copy_134 : decode cX7_copy 134 = .ok (.goto 4, 3) := by decide +kernel
theorem dX7_copy_137 : decode cX7_copy 137 = .ok (.iconst 0, 1) := by decide +kernel
theorem dX7_copy_138 : decode cX7_copy 138 = .ok (.istore 6, 2) := by decide +kernel
theorem dX7_copy_140 : decode cX7_copy 140 = .ok (.iconst 0, 1) := by decide +kernel
theorem dX7_copy_141 : decode cX7_copy 141 = .ok (.istore 7, 2) := by decide +kernel
theorem dX7_copy_143 : decode cX7_copy 143 = .ok (.iload 7, 2) := by decide +kernel
theorem dX7_copy_145 : decode cX7_copy 145 = .ok (.iload 5, 2) := by decide +kernel
theorem dX7_copy_147 : decode cX7_copy 147 = .ok (.if_icmp .ge 57, 3) := by decide +kernel
theorem dX7_copy_150 : decode cX7_copy 150 = .ok (.iload 6, 2) := by decide +kernel
theorem dX7_copy_152 : decode cX7_copy 152 = .ok (.ifCond .eq 8, 3) := by decide +kernel
theorem dX7_copy_155 : decode cX7_copy 155 = .ok (.iload 7, 2) := by decide +kernel
theorem dX7_copy_157 : decode cX7_copy 157 = .ok (.goto 10, 3) := by decide +kernel
theorem dX7_copy_160 : decode cX7_copy 160 = .ok (.iload 5, 2) := by decide +kernel
theorem dX7_copy_162 : decode cX7_copy 162 = .ok (.iconst 1, 1) := by decide +kernel
theorem dX7_copy_163 : decode cX7_copy 163 = .ok (.isub, 1) := by decide +kernel
theorem dX7_copy_164 : decode cX7_copy 164 = .ok (.iload 7, 2) := by decide +kernel
theorem dX7_copy_166 : decode cX7_copy 166 = .ok (.isub, 1) := by decide +kernel
theorem dX7_copy_167 : decode cX7_copy 167 = .ok (.istore 8, 2) := by decide +kernel
theorem dX7_copy_169 : decode cX7_copy 169 = .ok (.aload_n 0, 1) := by decide +kernel
theorem dX7_copy_170 : decode cX7_copy 170 = .ok (.getfield 16, 3) := by decide +kernel
theorem dX7_copy_173 : decode cX7_copy 173 = .ok (.bipush 40, 2) := by decide +kernel
theorem dX7_copy_175 : decode cX7_copy 175 = .ok (.iload_n 3, 1) := by decide +kernel
theorem dX7_copy_176 : decode cX7_copy 176 = .ok (.imul, 1) := by decide +kernel
theorem dX7_copy_177 : decode cX7_copy 177 = .ok (.iload 4, 2) := by decide +kernel
theorem dX7_copy_179 : decode cX7_copy 179 = .ok (.iadd, 1) := by decide +kernel
theorem dX7_copy_180 : decode cX7_copy 180 = .ok (.iload 8, 2) := by decide +kernel
theorem dX7_copy_182 : decode cX7_copy 182 = .ok (.iadd, 1) := by decide +kernel
theorem dX7_copy_183 : decode cX7_copy 183 = .ok (.aload_n 0, 1) := by decide +kernel
theorem dX7_copy_184 : decode cX7_copy 184 = .ok (.getfield 16, 3) := by decide +kernel
theorem dX7_copy_187 : decode cX7_copy 187 = .ok (.bipush 40, 2) := by decide +kernel
theorem dX7_copy_189 : decode cX7_copy 189 = .ok (.iload_n 1, 1) := by decide +kernel
theorem dX7_copy_190 : decode cX7_copy 190 = .ok (.imul, 1) := by decide +kernel
theorem dX7_copy_191 : decode cX7_copy 191 = .ok (.iload_n 2, 1) := by decide +kernel
theorem dX7_copy_192 : decode cX7_copy 192 = .ok (.iadd, 1) := by decide +kernel
theorem dX7_copy_193 : decode cX7_copy 193 = .ok (.iload 8, 2) := by decide +kernel
theorem dX7_copy_195 : decode cX7_copy 195 = .ok (.iadd, 1) := by decide +kernel
theorem dX7_copy_196 : decode cX7_copy 196 = .ok (.iaload, 1) := by decide +kernel
theorem dX7_copy_197 : decode cX7_copy 197 = .ok (.iastore, 1) := by decide +kernel
theorem dX7_copy_198 : decode cX7_copy 198 = .ok (.iinc 7 1, 3) := by decide +kernel
theorem dX7_copy_201 : decode cX7_copy 201 = .ok (.goto (-58), 3) := by decide +kernel
theorem dX7_copy_204 : decode cX7_copy 204 = .ok (.iload 5, 2) := by decide +kernel
theorem dX7_copy_206 : decode cX7_copy 206 = .ok (.ireturn, 1) := by decide +kernel
theorem dX7_drop_0 : decode cX7_drop 0 = .ok (.aload_n 0, 1) := by decide +kernel
theorem dX7_drop_1 : decode cX7_drop 1 = .ok (.iconst 0, 1) := by decide +kernel
theorem dX7_drop_2 : decode cX7_drop 2 = .ok (.putfield 65, 3) := by decide +kernel
theorem dX7_drop_5 : decode cX7_drop 5 = .ok (.iload_n 1, 1) := by decide +kernel
theorem dX7_drop_6 : decode cX7_drop 6 = .ok (.invokestatic 79, 3) := by decide +kernel
theorem dX7_drop_9 : decode cX7_drop 9 = .ok (.ifCond .ne 6, 3) := by decide +kernel
theorem dX7_drop_12 : decode cX7_drop 12 = .ok (.ldc 85, 2) := by decide +kernel
theorem dX7_drop_14 : decode cX7_drop 14 = .ok (.ireturn, 1) := by decide +kernel
theorem dX7_drop_15 : decode cX7_drop 15 = .ok (.aload_n 0, 1) := by decide +kernel
theorem dX7_drop_16 : decode cX7_drop 16 = .ok (.iconst 0, 1) := by decide +kernel
theorem dX7_drop_17 : decode cX7_drop 17 = .ok (.putfield 69, 3) := by decide +kernel
theorem dX7_drop_20 : decode cX7_drop 20 = .ok (.aload_n 0, 1) := by decide +kernel
theorem dX7_drop_21 : decode cX7_drop 21 = .ok (.getfield 7, 3) := by decide +kernel
theorem dX7_drop_24 : decode cX7_drop 24 = .ok (.iload_n 1, 1) := by decide +kernel
theorem dX7_drop_25 : decode cX7_drop 25 = .ok (.iaload, 1) := by decide +kernel
theorem dX7_drop_26 : decode cX7_drop 26 = .ok (.ifCond .ge 9, 3) := by decide +kernel
theorem dX7_drop_29 : decode cX7_drop 29 = .ok (.aload_n 0, 1) := by decide +kernel
theorem dX7_drop_30 : decode cX7_drop 30 = .ok (.iconst 1, 1) := by decide +kernel
theorem dX7_drop_31 : decode cX7_drop 31 = .ok (.invokevirtual 86, 3) := by decide +kernel
theorem dX7_drop_34 : decode cX7_drop 34 = .ok (.ireturn, 1) := by decide +kernel
theorem dX7_drop_35 : decode cX7_drop 35 = .ok (.aload_n 0, 1) := by decide +kernel
theorem dX7_drop_36 : decode cX7_drop 36 = .ok (.getfield 7, 3) := by decide +kernel
theorem dX7_drop_39 : decode cX7_drop 39 = .ok (.iload_n 1, 1) := by decide +kernel
theorem dX7_drop_40 : decode cX7_drop 40 = .ok (.iconst (-1), 1) := by decide +kernel
theorem dX7_drop_41 : decode cX7_drop 41 = .ok (.iastore, 1) := by decide +kernel
theorem dX7_drop_42 : decode cX7_drop 42 = .ok (.aload_n 0, 1) := by decide +kernel
theorem dX7_drop_43 : decode cX7_drop 43 = .ok (.getfield 13, 3) := by decide +kernel
theorem dX7_drop_46 : decode cX7_drop 46 = .ok (.iload_n 1, 1) := by decide +kernel
theorem dX7_drop_47 : decode cX7_drop 47 = .ok (.iaload, 1) := by decide +kernel
theorem dX7_drop_48 : decode cX7_drop 48 = .ok (.ireturn, 1) := by decide +kernel
theorem dX7_feed_0 : decode cX7_feed 0 = .ok (.aload_n 0, 1) := by decide +kernel
theorem dX7_feed_1 : decode cX7_feed 1 = .ok (.iconst 0, 1) := by decide +kernel
theorem dX7_feed_2 : decode cX7_feed 2 = .ok (.putfield 65, 3) := by decide +kernel
theorem dX7_feed_5 : decode cX7_feed 5 = .ok (.iload_n 3, 1) := by decide +kernel
theorem dX7_feed_6 : decode cX7_feed 6 = .ok (.i2l, 1) := by decide +kernel
theorem dX7_feed_7 : decode cX7_feed 7 = .ok (.lconst 1, 1) := by decide +kernel
theorem dX7_feed_8 : decode cX7_feed 8 = .ok (.ldc2_w 90, 3) := by decide +kernel
theorem dX7_feed_11 : decode cX7_feed 11 = .ok (.invokestatic 75, 3) := by decide +kernel
theorem dX7_feed_14 : decode cX7_feed 14 = .ok (.ifCond .ne 6, 3) := by decide +kernel
theorem dX7_feed_17 : decode cX7_feed 17 = .ok (.ldc 85, 2) := by decide +kernel
theorem dX7_feed_19 : decode cX7_feed 19 = .ok (.ireturn, 1) := by decide +kernel
theorem dX7_feed_20 : decode cX7_feed 20 = .ok (.aload_n 0, 1) := by decide +kernel
theorem dX7_feed_21 : decode cX7_feed 21 = .ok (.getfield 92, 3) := by decide +kernel
theorem dX7_feed_24 : decode cX7_feed 24 = .ok (.iload_n 3, 1) := by decide +kernel
theorem dX7_feed_25 : decode cX7_feed 25 = .ok (.iadd, 1) := by decide +kernel
theorem dX7_feed_26 : decode cX7_feed 26 = .ok (.sipush 400, 3) := by decide +kernel
theorem dX7_feed_29 : decode cX7_feed 29 = .ok (.if_icmp .le 6, 3) := by decide +kernel
theorem dX7_feed_32 : decode cX7_feed 32 = .ok (.ldc 95, 2) := by decide +kernel
theorem dX7_feed_34 : decode cX7_feed 34 = .ok (.ireturn, 1) := by decide +kernel
theorem dX7_feed_35 : decode cX7_feed 35 = .ok (.iload_n 3, 1) := by decide +kernel
theorem dX7_feed_36 : decode cX7_feed 36 = .ok (.iconst 1, 1) := by decide +kernel
theorem dX7_feed_37 : decode cX7_feed 37 = .ok (.isub, 1) := by decide +kernel
theorem dX7_feed_38 : decode cX7_feed 38 = .ok (.istore 4, 2) := by decide +kernel
theorem dX7_feed_40 : decode cX7_feed 40 = .ok (.iload 4, 2) := by decide +kernel
theorem dX7_feed_42 : decode cX7_feed 42 = .ok (.ifCond .lt 40, 3) := by decide +kernel
theorem dX7_feed_45 : decode cX7_feed 45 = .ok (.aload_n 0, 1) := by decide +kernel
theorem dX7_feed_46 : decode cX7_feed 46 = .ok (.getfield 28, 3) := by decide +kernel
theorem dX7_feed_49 : decode cX7_feed 49 = .ok (.aload_n 0, 1) := by decide +kernel
theorem dX7_feed_50 : decode cX7_feed 50 = .ok (.getfield 92, 3) := by decide +kernel
theorem dX7_feed_53 : decode cX7_feed 53 = .ok (.lload_n 1, 1) := by decide +kernel
theorem dX7_feed_54 : decode cX7_feed 54 = .ok (.bipush 8, 2) := by decide +kernel
theorem dX7_feed_56 : decode cX7_feed 56 = .ok (.iload 4, 2) := by decide +kernel
theorem dX7_feed_58 : decode cX7_feed 58 = .ok (.imul, 1) := by decide +kernel
theorem dX7_feed_59 : decode cX7_feed 59 = .ok (.lshr, 1) := by decide +kernel
theorem dX7_feed_60 : decode cX7_feed 60 = .ok (.ldc2_w 96, 3) := by decide +kernel
theorem dX7_feed_63 : decode cX7_feed 63 = .ok (.land, 1) := by decide +kernel
theorem dX7_feed_64 : decode cX7_feed 64 = .ok (.l2i, 1) := by decide +kernel
theorem dX7_feed_65 : decode cX7_feed 65 = .ok (.iastore, 1) := by decide +kernel
theorem dX7_feed_66 : decode cX7_feed 66 = .ok (.aload_n 0, 1) := by decide +kernel
theorem dX7_feed_67 : decode cX7_feed 67 = .ok (.dup, 1) := by decide +kernel
theorem dX7_feed_68 : decode cX7_feed 68 = .ok (.getfield 92, 3) := by decide +kernel
theorem dX7_feed_71 : decode cX7_feed 71 = .ok (.iconst 1, 1) := by decide +kernel
theorem dX7_feed_72 : decode cX7_feed 72 = .ok (.iadd, 1) := by decide +kernel
theorem dX7_feed_73 : decode cX7_feed 73 = .ok (.putfield 92, 3) := by decide +kernel
theorem dX7_feed_76 : decode cX7_feed 76 = .ok (.iinc 4 (-1), 3) := by decide +kernel
theorem dX7_feed_79 : decode cX7_feed 79 = .ok (.goto (-39), 3) := by decide +kernel
theorem dX7_feed_82 : decode cX7_feed 82 = .ok (.aload_n 0, 1) := by decide +kernel
theorem dX7_feed_83 : decode cX7_feed 83 = .ok (.getfield 92, 3) := by decide +kernel
theorem dX7_feed_86 : decode cX7_feed 86 = .ok (.ireturn, 1) := by decide +kernel
theorem dX7_byteAt_0 : decode cX7_byteAt 0 = .ok (.iload_n 1, 1) := by decide +kernel
theorem dX7_byteAt_1 : decode cX7_byteAt 1 = .ok (.aload_n 0, 1) := by decide +kernel
theorem dX7_byteAt_2 : decode cX7_byteAt 2 = .ok (.getfield 98, 3) := by decide +kernel
theorem dX7_byteAt_5 : decode cX7_byteAt 5 = .ok (.if_icmp .ge 12, 3) := by decide +kernel
theorem dX7_byteAt_8 : decode cX7_byteAt 8 = .ok (.aload_n 0, 1) := by decide +kernel
theorem dX7_byteAt_9 : decode cX7_byteAt 9 = .ok (.getfield 28, 3) := by decide +kernel
theorem dX7_byteAt_12 : decode cX7_byteAt 12 = .ok (.iload_n 1, 1) := by decide +kernel
theorem dX7_byteAt_13 : decode cX7_byteAt 13 = .ok (.iaload, 1) := by decide +kernel
theorem dX7_byteAt_14 : decode cX7_byteAt 14 = .ok (.goto 5, 3) := by decide +kernel
theorem dX7_byteAt_17 : decode cX7_byteAt 17 = .ok (.ldc 101, 2) := by decide +kernel
theorem dX7_byteAt_19 : decode cX7_byteAt 19 = .ok (.ireturn, 1) := by decide +kernel
theorem dX7_isLetter_0 : decode cX7_isLetter 0 = .ok (.iload_n 0, 1) := by decide +kernel
theorem dX7_isLetter_1 : decode cX7_isLetter 1 = .ok (.bipush 97, 2) := by decide +kernel
theorem dX7_isLetter_3 : decode cX7_isLetter 3 = .ok (.if_icmp .lt 13, 3) := by decide +kernel
theorem dX7_isLetter_6 : decode cX7_isLetter 6 = .ok (.iload_n 0, 1) := by decide +kernel
theorem dX7_isLetter_7 : decode cX7_isLetter 7 = .ok (.bipush 122, 2) := by decide +kernel
theorem dX7_isLetter_9 : decode cX7_isLetter 9 = .ok (.if_icmp .gt 7, 3) := by decide +kernel
theorem dX7_isLetter_12 : decode cX7_isLetter 12 = .ok (.iconst 1, 1) := by decide +kernel
theorem dX7_isLetter_13 : decode cX7_isLetter 13 = .ok (.goto 4, 3) := by decide +kernel
theorem dX7_isLetter_16 : decode cX7_isLetter 16 = .ok (.iconst 0, 1) := by decide +kernel
theorem dX7_isLetter_17 : decode cX7_isLetter 17 = .ok (.ireturn, 1) := by decide +kernel
theorem dX7_isFigure_0 : decode cX7_isFigure 0 = .ok (.iload_n 0, 1) := by decide +kernel
theorem dX7_isFigure_1 : decode cX7_isFigure 1 = .ok (.bipush 48, 2) := by decide +kernel
theorem dX7_isFigure_3 : decode cX7_isFigure 3 = .ok (.if_icmp .lt 13, 3) := by decide +kernel
theorem dX7_isFigure_6 : decode cX7_isFigure 6 = .ok (.iload_n 0, 1) := by decide +kernel
theorem dX7_isFigure_7 : decode cX7_isFigure 7 = .ok (.bipush 57, 2) := by decide +kernel
theorem dX7_isFigure_9 : decode cX7_isFigure 9 = .ok (.if_icmp .gt 7, 3) := by decide +kernel
theorem dX7_isFigure_12 : decode cX7_isFigure 12 = .ok (.iconst 1, 1) := by decide +kernel
theorem dX7_isFigure_13 : decode cX7_isFigure 13 = .ok (.goto 4, 3) := by decide +kernel
theorem dX7_isFigure_16 : decode cX7_isFigure 16 = .ok (.iconst 0, 1) := by decide +kernel
theorem dX7_isFigure_17 : decode cX7_isFigure 17 = .ok (.ireturn, 1) := by decide +kernel
theorem dX7_next_0 : decode cX7_next 0 = .ok (.aload_n 0, 1) := by decide +kernel
theorem dX7_next_1 : decode cX7_next 1 = .ok (.aload_n 0, 1) := by decide +kernel
theorem dX7_next_2 : decode cX7_next 2 = .ok (.getfield 102, 3) := by decide +kernel
theorem dX7_next_5 : decode cX7_next 5 = .ok (.invokevirtual 105, 3) := by decide +kernel
theorem dX7_next_8 : decode cX7_next 8 = .ok (.bipush 32, 2) := by decide +kernel
theorem dX7_next_10 : decode cX7_next 10 = .ok (.if_icmp .eq 16, 3) := by decide +kernel
theorem dX7_next_13 : decode cX7_next 13 = .ok (.aload_n 0, 1) := by decide +kernel
theorem dX7_next_14 : decode cX7_next 14 = .ok (.aload_n 0, 1) := by decide +kernel
theorem dX7_next_15 : decode cX7_next 15 = .ok (.getfield 102, 3) := by decide +kernel
theorem dX7_next_18 : decode cX7_next 18 = .ok (.invokevirtual 105, 3) := by decide +kernel
theorem dX7_next_21 : decode cX7_next 21 = .ok (.bipush 10, 2) := by decide +kernel
theorem dX7_next_23 : decode cX7_next 23 = .ok (.if_icmp .ne 16, 3) := by decide +kernel
theorem dX7_next_26 : decode cX7_next 26 = .ok (.aload_n 0, 1) := by decide +kernel
theorem dX7_next_27 : decode cX7_next 27 = .ok (.dup, 1) := by decide +kernel
theorem dX7_next_28 : decode cX7_next 28 = .ok (.getfield 102, 3) := by decide +kernel
theorem dX7_next_31 : decode cX7_next 31 = .ok (.iconst 1, 1) := by decide +kernel
theorem dX7_next_32 : decode cX7_next 32 = .ok (.iadd, 1) := by decide +kernel
theorem dX7_next_33 : decode cX7_next 33 = .ok (.putfield 102, 3) := by decide +kernel
theorem dX7_next_36 : decode cX7_next 36 = .ok (.goto (-36), 3) := by decide +kernel
theorem dX7_next_39 : decode cX7_next 39 = .ok (.aload_n 0, 1) := by decide +kernel
theorem dX7_next_40 : decode cX7_next 40 = .ok (.aload_n 0, 1) := by decide +kernel
theorem dX7_next_41 : decode cX7_next 41 = .ok (.getfield 102, 3) := by decide +kernel
theorem dX7_next_44 : decode cX7_next 44 = .ok (.putfield 108, 3) := by decide +kernel
theorem dX7_next_47 : decode cX7_next 47 = .ok (.aload_n 0, 1) := by decide +kernel
theorem dX7_next_48 : decode cX7_next 48 = .ok (.aload_n 0, 1) := by decide +kernel
theorem dX7_next_49 : decode cX7_next 49 = .ok (.getfield 102, 3) := by decide +kernel
theorem dX7_next_52 : decode cX7_next 52 = .ok (.invokevirtual 105, 3) := by decide +kernel
theorem dX7_next_55 : decode cX7_next 55 = .ok (.istore_n 1, 1) := by decide +kernel
theorem dX7_next_56 : decode cX7_next 56 = .ok (.iload_n 1, 1) := by decide +kernel
theorem dX7_next_57 : decode cX7_next 57 = .ok (.ldc 101, 2) := by decide +kernel
theorem dX7_next_59 : decode cX7_next 59 = .ok (.if_icmp .ne 11, 3) := by decide +kernel
theorem dX7_next_62 : decode cX7_next 62 = .ok (.aload_n 0, 1) := by decide +kernel
theorem dX7_next_63 : decode cX7_next 63 = .ok (.iconst 1, 1) := by decide +kernel
theorem dX7_next_64 : decode cX7_next 64 = .ok (.putfield 111, 3) := by decide +kernel
theorem dX7_next_67 : decode cX7_next 67 = .ok (.goto 129, 3) := by decide +kernel
theorem dX7_next_70 : decode cX7_next 70 = .ok (.iload_n 1, 1) := by decide +kernel
theorem dX7_next_71 : decode cX7_next 71 = .ok (.invokestatic 114, 3) := by decide +kernel
theorem dX7_next_74 : decode cX7_next 74 = .ok (.ifCond .eq 38, 3) := by decide +kernel
theorem dX7_next_77 : decode cX7_next 77 = .ok (.aload_n 0, 1) := by decide +kernel
theorem dX7_next_78 : decode cX7_next 78 = .ok (.aload_n 0, 1) := by decide +kernel
theorem dX7_next_79 : decode cX7_next 79 = .ok (.getfield 102, 3) := by decide +kernel
theorem dX7_next_82 : decode cX7_next 82 = .ok (.invokevirtual 105, 3) := by decide +kernel
theorem dX7_next_85 : decode cX7_next 85 = .ok (.invokestatic 114, 3) := by decide +kernel
theorem dX7_next_88 : decode cX7_next 88 = .ok (.ifCond .eq 16, 3) := by decide +kernel
theorem dX7_next_91 : decode cX7_next 91 = .ok (.aload_n 0, 1) := by decide +kernel
theorem dX7_next_92 : decode cX7_next 92 = .ok (.dup, 1) := by decide +kernel
theorem dX7_next_93 : decode cX7_next 93 = .ok (.getfield 102, 3) := by decide +kernel
theorem dX7_next_96 : decode cX7_next 96 = .ok (.iconst 1, 1) := by decide +kernel
theorem dX7_next_97 : decode cX7_next 97 = .ok (.iadd, 1) := by decide +kernel
theorem dX7_next_98 : decode cX7_next 98 = .ok (.putfield 102, 3) := by decide +kernel
theorem dX7_next_101 : decode cX7_next 101 = .ok (.goto (-24), 3) := by decide +kernel
theorem dX7_next_104 : decode cX7_next 104 = .ok (.aload_n 0, 1) := by decide +kernel
theorem dX7_next_105 : decode cX7_next 105 = .ok (.iconst 2, 1) := by decide +kernel
theorem dX7_next_106 : decode cX7_next 106 = .ok (.putfield 111, 3) := by decide +kernel
theorem dX7_next_109 : decode cX7_next 109 = .ok (.goto 87, 3) := by decide +kernel
theorem dX7_next_112 : decode cX7_next 112 = .ok (.iload_n 1, 1) := by decide +kernel
theorem dX7_next_113 : decode cX7_next 113 = .ok (.invokestatic 117, 3) := by decide +kernel
theorem dX7_next_116 : decode cX7_next 116 = .ok (.ifCond .eq 55, 3) := by decide +kernel
theorem dX7_next_119 : decode cX7_next 119 = .ok (.aload_n 0, 1) := by decide +kernel
theorem dX7_next_120 : decode cX7_next 120 = .ok (.aload_n 0, 1) := by decide +kernel
theorem dX7_next_121 : decode cX7_next 121 = .ok (.getfield 102, 3) := by decide +kernel
theorem dX7_next_124 : decode cX7_next 124 = .ok (.invokevirtual 105, 3) := by decide +kernel
theorem dX7_next_127 : decode cX7_next 127 = .ok (.invokestatic 117, 3) := by decide +kernel
theorem dX7_next_130 : decode cX7_next 130 = .ok (.ifCond .eq 16, 3) := by decide +kernel
theorem dX7_next_133 : decode cX7_next 133 = .ok (.aload_n 0, 1) := by decide +kernel
theorem dX7_next_134 : decode cX7_next 134 = .ok (.dup, 1) := by decide +kernel
theorem dX7_next_135 : decode cX7_next 135 = .ok (.getfield 102, 3) := by decide +kernel
theorem dX7_next_138 : decode cX7_next 138 = .ok (.iconst 1, 1) := by decide +kernel
theorem dX7_next_139 : decode cX7_next 139 = .ok (.iadd, 1) := by decide +kernel
theorem dX7_next_140 : decode cX7_next 140 = .ok (.putfield 102, 3) := by decide +kernel
theorem dX7_next_143 : decode cX7_next 143 = .ok (.goto (-24), 3) := by decide +kernel
theorem dX7_next_146 : decode cX7_next 146 = .ok (.aload_n 0, 1) := by decide +kernel
theorem dX7_next_147 : decode cX7_next 147 = .ok (.aload_n 0, 1) := by decide +kernel
theorem dX7_next_148 : decode cX7_next 148 = .ok (.getfield 102, 3) := by decide +kernel
theorem dX7_next_151 : decode cX7_next 151 = .ok (.aload_n 0, 1) := by decide +kernel
theorem dX7_next_152 : decode cX7_next 152 = .ok (.getfield 108, 3) := by decide +kernel
theorem dX7_next_155 : decode cX7_next 155 = .ok (.isub, 1) := by decide +kernel
theorem dX7_next_156 : decode cX7_next 156 = .ok (.iconst 3, 1) := by decide +kernel
theorem dX7_next_157 : decode cX7_next 157 = .ok (.if_icmp .le 7, 3) := by decide +kernel
theorem dX7_next_160 : decode cX7_next 160 = .ok (.iconst 0, 1) := by decide +kernel
theorem dX7_next_161 : decode cX7_next 161 = .ok (.goto 4, 3) := by decide +kernel
theorem dX7_next_164 : decode cX7_next 164 = .ok (.iconst 3, 1) := by decide +kernel
theorem dX7_next_165 : decode cX7_next 165 = .ok (.putfield 111, 3) := by decide +kernel
theorem dX7_next_168 : decode cX7_next 168 = .ok (.goto 28, 3) := by decide +kernel
theorem dX7_next_171 : decode cX7_next 171 = .ok (.aload_n 0, 1) := by decide +kernel
theorem dX7_next_172 : decode cX7_next 172 = .ok (.dup, 1) := by decide +kernel
theorem dX7_next_173 : decode cX7_next 173 = .ok (.getfield 102, 3) := by decide +kernel
theorem dX7_next_176 : decode cX7_next 176 = .ok (.iconst 1, 1) := by decide +kernel
theorem dX7_next_177 : decode cX7_next 177 = .ok (.iadd, 1) := by decide +kernel
theorem dX7_next_178 : decode cX7_next 178 = .ok (.putfield 102, 3) := by decide +kernel
theorem dX7_next_181 : decode cX7_next 181 = .ok (.aload_n 0, 1) := by decide +kernel
theorem dX7_next_182 : decode cX7_next 182 = .ok (.iload_n 1, 1) := by decide +kernel
theorem dX7_next_183 : decode cX7_next 183 = .ok (.bipush 59, 2) := by decide +kernel
theorem dX7_next_185 : decode cX7_next 185 = .ok (.if_icmp .ne 7, 3) := by decide +kernel
theorem dX7_next_188 : decode cX7_next 188 = .ok (.iconst 4, 1) := by decide +kernel
theorem dX7_next_189 : decode cX7_next 189 = .ok (.goto 4, 3) := by decide +kernel
theorem dX7_next_192 : decode cX7_next 192 = .ok (.iconst 0, 1) := by decide +kernel
theorem dX7_next_193 : decode cX7_next 193 = .ok (.putfield 111, 3) := by decide +kernel
theorem dX7_next_196 : decode cX7_next 196 = .ok (.aload_n 0, 1) := by decide +kernel
theorem dX7_next_197 : decode cX7_next 197 = .ok (.aload_n 0, 1) := by decide +kernel
theorem dX7_next_198 : decode cX7_next 198 = .ok (.getfield 102, 3) := by decide +kernel
theorem dX7_next_201 : decode cX7_next 201 = .ok (.putfield 120, 3) := by decide +kernel
theorem dX7_next_204 : decode cX7_next 204 = .ok (.return_, 1) := by decide +kernel
theorem dX7_begin_0 : decode cX7_begin 0 = .ok (.aload_n 0, 1) := by decide +kernel
theorem dX7_begin_1 : decode cX7_begin 1 = .ok (.aload_n 0, 1) := by decide +kernel
theorem dX7_begin_2 : decode cX7_begin 2 = .ok (.getfield 92, 3) := by decide +kernel
theorem dX7_begin_5 : decode cX7_begin 5 = .ok (.putfield 98, 3) := by decide +kernel
theorem dX7_begin_8 : decode cX7_begin 8 = .ok (.aload_n 0, 1) := by decide +kernel
theorem dX7_begin_9 : decode cX7_begin 9 = .ok (.iconst 0, 1) := by decide +kernel
theorem dX7_begin_10 : decode cX7_begin 10 = .ok (.putfield 92, 3) := by decide +kernel
theorem dX7_begin_13 : decode cX7_begin 13 = .ok (.aload_n 0, 1) := by decide +kernel
theorem dX7_begin_14 : decode cX7_begin 14 = .ok (.iconst 0, 1) := by decide +kernel
theorem dX7_begin_15 : decode cX7_begin 15 = .ok (.putfield 102, 3) := by decide +kernel
theorem dX7_begin_18 : decode cX7_begin 18 = .ok (.aload_n 0, 1) := by decide +kernel
theorem dX7_begin_19 : decode cX7_begin 19 = .ok (.iconst 0, 1) := by decide +kernel
theorem dX7_begin_20 : decode cX7_begin 20 = .ok (.putfield 123, 3) := by decide +kernel
theorem dX7_begin_23 : decode cX7_begin 23 = .ok (.aload_n 0, 1) := by decide +kernel
theorem dX7_begin_24 : decode cX7_begin 24 = .ok (.invokevirtual 126, 3) := by decide +kernel
theorem dX7_begin_27 : decode cX7_begin 27 = .ok (.return_, 1) := by decide +kernel
theorem dX7_bad_0 : decode cX7_bad 0 = .ok (.aload_n 0, 1) := by decide +kernel
theorem dX7_bad_1 : decode cX7_bad 1 = .ok (.getfield 123, 3) := by decide +kernel
theorem dX7_bad_4 : decode cX7_bad 4 = .ok (.ifCond .ne 16, 3) := by decide +kernel
theorem dX7_bad_7 : decode cX7_bad 7 = .ok (.aload_n 0, 1) := by decide +kernel
theorem dX7_bad_8 : decode cX7_bad 8 = .ok (.iload_n 1, 1) := by decide +kernel
theorem dX7_bad_9 : decode cX7_bad 9 = .ok (.putfield 123, 3) := by decide +kernel
theorem dX7_bad_12 : decode cX7_bad 12 = .ok (.aload_n 0, 1) := by decide +kernel
theorem dX7_bad_13 : decode cX7_bad 13 = .ok (.aload_n 0, 1) := by decide +kernel
theorem dX7_bad_14 : decode cX7_bad 14 = .ok (.getfield 108, 3) := by decide +kernel
theorem dX7_bad_17 : decode cX7_bad 17 = .ok (.putfield 129, 3) := by decide +kernel
theorem dX7_bad_20 : decode cX7_bad 20 = .ok (.return_, 1) := by decide +kernel
theorem dX7_must_0 : decode cX7_must 0 = .ok (.iload_n 1, 1) := by decide +kernel
theorem dX7_must_1 : decode cX7_must 1 = .ok (.ifCond .ne 8, 3) := by decide +kernel
theorem dX7_must_4 : decode cX7_must 4 = .ok (.aload_n 0, 1) := by decide +kernel
theorem dX7_must_5 : decode cX7_must 5 = .ok (.iconst 1, 1) := by decide +kernel
theorem dX7_must_6 : decode cX7_must 6 = .ok (.invokevirtual 132, 3) := by decide +kernel
theorem dX7_must_9 : decode cX7_must 9 = .ok (.aload_n 0, 1) := by decide +kernel
theorem dX7_must_10 : decode cX7_must 10 = .ok (.getfield 123, 3) := by decide +kernel
theorem dX7_must_13 : decode cX7_must 13 = .ok (.ifCond .ne 7, 3) := by decide +kernel
theorem dX7_must_16 : decode cX7_must 16 = .ok (.aload_n 0, 1) := by decide +kernel
theorem dX7_must_17 : decode cX7_must 17 = .ok (.invokevirtual 126, 3) := by decide +kernel
theorem dX7_must_20 : decode cX7_must 20 = .ok (.return_, 1) := by decide +kernel
theorem dX7_name_0 : decode cX7_name 0 = .ok (.lconst 0, 1) := by decide +kernel
theorem dX7_name_1 : decode cX7_name 1 = .ok (.lstore_n 1, 1) := by decide +kernel
theorem dX7_name_2 : decode cX7_name 2 = .ok (.aload_n 0, 1) := by decide +kernel
theorem dX7_name_3 : decode cX7_name 3 = .ok (.getfield 108, 3) := by decide +kernel
theorem dX7_name_6 : decode cX7_name 6 = .ok (.istore_n 3, 1) := by decide +kernel
theorem dX7_name_7 : decode cX7_name 7 = .ok (.iload_n 3, 1) := by decide +kernel
theorem dX7_name_8 : decode cX7_name 8 = .ok (.aload_n 0, 1) := by decide +kernel
theorem dX7_name_9 : decode cX7_name 9 = .ok (.getfield 120, 3) := by decide +kernel
theorem dX7_name_12 : decode cX7_name 12 = .ok (.if_icmp .ge 44, 3) := by decide +kernel
theorem dX7_name_15 : decode cX7_name 15 = .ok (.aload_n 0, 1) := by decide +kernel
theorem dX7_name_16 : decode cX7_name 16 = .ok (.getfield 111, 3) := by decide +kernel
theorem dX7_name_19 : decode cX7_name 19 = .ok (.iconst 2, 1) := by decide +kernel
theorem dX7_name_20 : decode cX7_name 20 = .ok (.if_icmp .ne 36, 3) := by decide +kernel
theorem dX7_name_23 : decode cX7_name 23 = .ok (.aload_n 0, 1) := by decide +kernel
theorem dX7_name_24 : decode cX7_name 24 = .ok (.getfield 120, 3) := by decide +kernel
theorem dX7_name_27 : decode cX7_name 27 = .ok (.aload_n 0, 1) := by decide +kernel
theorem dX7_name_28 : decode cX7_name 28 = .ok (.getfield 108, 3) := by decide +kernel
theorem dX7_name_31 : decode cX7_name 31 = .ok (.isub, 1) := by decide +kernel
theorem dX7_name_32 : decode cX7_name 32 = .ok (.bipush 8, 2) := by decide +kernel
theorem dX7_name_34 : decode cX7_name 34 = .ok (.if_icmp .ge 22, 3) := by decide +kernel
theorem dX7_name_37 : decode cX7_name 37 = .ok (.lload_n 1, 1) := by decide +kernel
theorem dX7_name_38 : decode cX7_name 38 = .ok (.bipush 8, 2) := by decide +kernel
theorem dX7_name_40 : decode cX7_name 40 = .ok (.lshl, 1) := by decide +kernel
theorem dX7_name_41 : decode cX7_name 41 = .ok (.aload_n 0, 1) := by decide +kernel
theorem dX7_name_42 : decode cX7_name 42 = .ok (.getfield 28, 3) := by decide +kernel
theorem dX7_name_45 : decode cX7_name 45 = .ok (.iload_n 3, 1) := by decide +kernel
theorem dX7_name_46 : decode cX7_name 46 = .ok (.iaload, 1) := by decide +kernel
theorem dX7_name_47 : decode cX7_name 47 = .ok (.i2l, 1) := by decide +kernel
theorem dX7_name_48 : decode cX7_name 48 = .ok (.lor, 1) := by decide +kernel
theorem dX7_name_49 : decode cX7_name 49 = .ok (.lstore_n 1, 1) := by decide +kernel
theorem dX7_name_50 : decode cX7_name 50 = .ok (.iinc 3 1, 3) := by decide +kernel
theorem dX7_name_53 : decode cX7_name 53 = .ok (.goto (-46), 3) := by decide +kernel
theorem dX7_name_56 : decode cX7_name 56 = .ok (.aload_n 0, 1) := by decide +kernel
theorem dX7_name_57 : decode cX7_name 57 = .ok (.getfield 123, 3) := by decide +kernel
theorem dX7_name_60 : decode cX7_name 60 = .ok (.ifCond .ne 7, 3) := by decide +kernel
theorem dX7_name_63 : decode cX7_name 63 = .ok (.lload_n 1, 1) := by decide +kernel
theorem dX7_name_64 : decode cX7_name 64 = .ok (.goto 4, 3) := by decide +kernel
theorem dX7_name_67 : decode cX7_name 67 = .ok (.lconst 0, 1) := by decide +kernel
theorem dX7_name_68 : decode cX7_name 68 = .ok (.lreturn, 1) := by decide +kernel
theorem dX7_figures_0 : decode cX7_figures 0 = .ok (.iconst 0, 1) := by decide +kernel
theorem dX7_figures_1 : decode cX7_figures 1 = .ok (.istore_n 1, 1) := by decide +kernel
theorem dX7_figures_2 : decode cX7_figures 2 = .ok (.aload_n 0, 1) := by decide +kernel
theorem dX7_figures_3 : decode cX7_figures 3 = .ok (.getfield 108, 3) := by decide +kernel
theorem dX7_figures_6 : decode cX7_figures 6 = .ok (.istore_n 2, 1) := by decide +kernel
theorem dX7_figures_7 : decode cX7_figures 7 = .ok (.iload_n 2, 1) := by decide +kernel
theorem dX7_figures_8 : decode cX7_figures 8 = .ok (.aload_n 0, 1) := by decide +kernel
theorem dX7_figures_9 : decode cX7_figures 9 = .ok (.getfield 120, 3) := by decide +kernel
theorem dX7_figures_12 : decode cX7_figures 12 = .ok (.if_icmp .ge 32, 3) := by decide +kernel
theorem dX7_figures_15 : decode cX7_figures 15 = .ok (.aload_n 0, 1) := by decide +kernel
theorem dX7_figures_16 : decode cX7_figures 16 = .ok (.getfield 111, 3) := by decide +kernel
theorem dX7_figures_19 : decode cX7_figures 19 = .ok (.iconst 3, 1) := by decide +kernel
theorem dX7_figures_20 : decode cX7_figures 20 = .ok (.if_icmp .ne 24, 3) := by decide +kernel
theorem dX7_figures_23 : decode cX7_figures 23 = .ok (.bipush 10, 2) := by decide +kernel
theorem dX7_figures_25 : decode cX7_figures 25 = .ok (.iload_n 1, 1) := by decide +kernel
theorem dX7_figures_26 : decode cX7_figures 26 = .ok (.imul, 1) := by decide +kernel
theorem dX7_figures_27 : decode cX7_figures 27 = .ok (.aload_n 0, 1) := by decide +kernel
theorem dX7_figures_28 : decode cX7_figures 28 = .ok (.getfield 28, 3) := by decide +kernel
theorem dX7_figures_31 : decode cX7_figures 31 = .ok (.iload_n 2, 1) := by decide +kernel
theorem dX7_figures_32 : decode cX7_figures 32 = .ok (.iaload, 1) := by decide +kernel
theorem dX7_figures_33 : decode cX7_figures 33 = .ok (.iadd, 1) := by decide +kernel
theorem dX7_figures_34 : decode cX7_figures 34 = .ok (.bipush 48, 2) := by decide +kernel
theorem dX7_figures_36 : decode cX7_figures 36 = .ok (.isub, 1) := by decide +kernel
theorem dX7_figures_37 : decode cX7_figures 37 = .ok (.istore_n 1, 1) := by decide +kernel
theorem dX7_figures_38 : decode cX7_figures 38 = .ok (.iinc 2 1, 3) := by decide +kernel
theorem dX7_figures_41 : decode cX7_figures 41 = .ok (.goto (-34), 3) := by decide +kernel
theorem dX7_figures_44 : decode cX7_figures 44 = .ok (.iload_n 1, 1) := by decide +kernel
theorem dX7_figures_45 : decode cX7_figures 45 = .ok (.ireturn, 1) := by decide +kernel
theorem dX7_number_0 : decode cX7_number 0 = .ok (.aload_n 0, 1) := by decide +kernel
theorem dX7_number_1 : decode cX7_number 1 = .ok (.getfield 123, 3) := by decide +kernel
theorem dX7_number_4 : decode cX7_number 4 = .ok (.ifCond .le 5, 3) := by decide +kernel
theorem dX7_number_7 : decode cX7_number 7 = .ok (.iconst 0, 1) := by decide +kernel
theorem dX7_number_8 : decode cX7_number 8 = .ok (.ireturn, 1) := by decide +kernel
theorem dX7_number_9 : decode cX7_number 9 = .ok (.aload_n 0, 1) := by decide +kernel
theorem dX7_number_10 : decode cX7_number 10 = .ok (.invokevirtual 136, 3) := by decide +kernel
theorem dX7_number_13 : decode cX7_number 13 = .ok (.istore_n 3, 1) := by decide +kernel
theorem dX7_number_14 : decode cX7_number 14 = .ok (.aload_n 0, 1) := by decide +kernel
theorem dX7_number_15 : decode cX7_number 15 = .ok (.getfield 111, 3) := by decide +kernel
theorem dX7_number_18 : decode cX7_number 18 = .ok (.iconst 3, 1) := by decide +kernel
theorem dX7_number_19 : decode cX7_number 19 = .ok (.if_icmp .ne 20, 3) := by decide +kernel
theorem dX7_number_22 : decode cX7_number 22 = .ok (.iload_n 3, 1) := by decide +kernel
theorem dX7_number_23 : decode cX7_number 23 = .ok (.i2l, 1) := by decide +kernel
theorem dX7_number_24 : decode cX7_number 24 = .ok (.iload_n 1, 1) := by decide +kernel
theorem dX7_number_25 : decode cX7_number 25 = .ok (.i2l, 1) := by decide +kernel
theorem dX7_number_26 : decode cX7_number 26 = .ok (.iload_n 2, 1) := by decide +kernel
theorem dX7_number_27 : decode cX7_number 27 = .ok (.i2l, 1) := by decide +kernel
theorem dX7_number_28 : decode cX7_number 28 = .ok (.invokestatic 75, 3) := by decide +kernel
theorem dX7_number_31 : decode cX7_number 31 = .ok (.ifCond .ne 8, 3) := by decide +kernel
theorem dX7_number_34 : decode cX7_number 34 = .ok (.aload_n 0, 1) := by decide +kernel
theorem dX7_number_35 : decode cX7_number 35 = .ok (.iconst 2, 1) := by decide +kernel
theorem dX7_number_36 : decode cX7_number 36 = .ok (.invokevirtual 132, 3) := by decide +kernel
theorem dX7_number_39 : decode cX7_number 39 = .ok (.aload_n 0, 1) := by decide +kernel
theorem dX7_number_40 : decode cX7_number 40 = .ok (.aload_n 0, 1) := by decide +kernel
theorem dX7_number_41 : decode cX7_number 41 = .ok (.getfield 111, 3) := by decide +kernel
theorem dX7_number_44 : decode cX7_number 44 = .ok (.iconst 3, 1) := by decide +kernel
theorem dX7_number_45 : decode cX7_number 45 = .ok (.if_icmp .ne 7, 3) := by decide +kernel
theorem dX7_number_48 : decode cX7_number 48 = .ok (.iconst 1, 1) := by decide +kernel
theorem dX7_number_49 : decode cX7_number 49 = .ok (.goto 4, 3) := by decide +kernel
theorem dX7_number_52 : decode cX7_number 52 = .ok (.iconst 0, 1) := by decide +kernel
theorem dX7_number_53 : decode cX7_number 53 = .ok (.invokevirtual 140, 3) := by decide +kernel
theorem dX7_number_56 : decode cX7_number 56 = .ok (.iload_n 3, 1) := by decide +kernel
theorem dX7_number_57 : decode cX7_number 57 = .ok (.ireturn, 1) := by decide +kernel
theorem dX7_kindBy_0 : decode cX7_kindBy 0 = .ok (.lload_n 0, 1) := by decide +kernel
theorem dX7_kindBy_1 : decode cX7_kindBy 1 = .ok (.ldc2_w 144, 3) := by decide +kernel
theorem dX7_kindBy_4 : decode cX7_kindBy 4 = .ok (.lcmp, 1) := by decide +kernel
theorem dX7_kindBy_5 : decode cX7_kindBy 5 = .ok (.ifCond .ne 7, 3) := by decide +kernel
theorem dX7_kindBy_8 : decode cX7_kindBy 8 = .ok (.iconst 1, 1) := by decide +kernel
theorem dX7_kindBy_9 : decode cX7_kindBy 9 = .ok (.goto 53, 3) := by decide +kernel
theorem dX7_kindBy_12 : decode cX7_kindBy 12 = .ok (.lload_n 0, 1) := by decide +kernel
theorem dX7_kindBy_13 : decode cX7_kindBy 13 = .ok (.ldc2_w 146, 3) := by decide +kernel
theorem dX7_kindBy_16 : decode cX7_kindBy 16 = .ok (.lcmp, 1) := by decide +kernel
theorem dX7_kindBy_17 : decode cX7_kindBy 17 = .ok (.ifCond .ne 7, 3) := by decide +kernel
theorem dX7_kindBy_20 : decode cX7_kindBy 20 = .ok (.iconst 4, 1) := by decide +kernel
theorem dX7_kindBy_21 : decode cX7_kindBy 21 = .ok (.goto 41, 3) := by decide +kernel
theorem dX7_kindBy_24 : decode cX7_kindBy 24 = .ok (.lload_n 0, 1) := by decide +kernel
theorem dX7_kindBy_25 : decode cX7_kindBy 25 = .ok (.ldc2_w 148, 3) := by decide +kernel
theorem dX7_kindBy_28 : decode cX7_kindBy 28 = .ok (.lcmp, 1) := by decide +kernel
theorem dX7_kindBy_29 : decode cX7_kindBy 29 = .ok (.ifCond .ne 7, 3) := by decide +kernel
theorem dX7_kindBy_32 : decode cX7_kindBy 32 = .ok (.iconst 2, 1) := by decide +kernel
theorem dX7_kindBy_33 : decode cX7_kindBy 33 = .ok (.goto 29, 3) := by decide +kernel
theorem dX7_kindBy_36 : decode cX7_kindBy 36 = .ok (.lload_n 0, 1) := by decide +kernel
theorem dX7_kindBy_37 : decode cX7_kindBy 37 = .ok (.ldc2_w 150, 3) := by decide +kernel
theorem dX7_kindBy_40 : decode cX7_kindBy 40 = .ok (.lcmp, 1) := by decide +kernel
theorem dX7_kindBy_41 : decode cX7_kindBy 41 = .ok (.ifCond .ne 7, 3) := by decide +kernel
theorem dX7_kindBy_44 : decode cX7_kindBy 44 = .ok (.iconst 3, 1) := by decide +kernel
theorem dX7_kindBy_45 : decode cX7_kindBy 45 = .ok (.goto 17, 3) := by decide +kernel
theorem dX7_kindBy_48 : decode cX7_kindBy 48 = .ok (.lload_n 0, 1) := by decide +kernel
theorem dX7_kindBy_49 : decode cX7_kindBy 49 = .ok (.ldc2_w 152, 3) := by decide +kernel
theorem dX7_kindBy_52 : decode cX7_kindBy 52 = .ok (.lcmp, 1) := by decide +kernel
theorem dX7_kindBy_53 : decode cX7_kindBy 53 = .ok (.ifCond .ne 7, 3) := by decide +kernel
theorem dX7_kindBy_56 : decode cX7_kindBy 56 = .ok (.iconst 5, 1) := by decide +kernel
theorem dX7_kindBy_57 : decode cX7_kindBy 57 = .ok (.goto 5, 3) := by decide +kernel
theorem dX7_kindBy_60 : decode cX7_kindBy 60 = .ok (.ldc 101, 2) := by decide +kernel
theorem dX7_kindBy_62 : decode cX7_kindBy 62 = .ok (.ireturn, 1) := by decide +kernel
theorem dX7_mustEnd_0 : decode cX7_mustEnd 0 = .ok (.aload_n 0, 1) := by decide +kernel
theorem dX7_mustEnd_1 : decode cX7_mustEnd 1 = .ok (.getfield 123, 3) := by decide +kernel
theorem dX7_mustEnd_4 : decode cX7_mustEnd 4 = .ok (.ifCond .ne 20, 3) := by decide +kernel
theorem dX7_mustEnd_7 : decode cX7_mustEnd 7 = .ok (.aload_n 0, 1) := by decide +kernel
theorem dX7_mustEnd_8 : decode cX7_mustEnd 8 = .ok (.aload_n 0, 1) := by decide +kernel
theorem dX7_mustEnd_9 : decode cX7_mustEnd 9 = .ok (.getfield 111, 3) := by decide +kernel
theorem dX7_mustEnd_12 : decode cX7_mustEnd 12 = .ok (.iconst 4, 1) := by decide +kernel
theorem dX7_mustEnd_13 : decode cX7_mustEnd 13 = .ok (.if_icmp .ne 7, 3) := by decide +kernel
theorem dX7_mustEnd_16 : decode cX7_mustEnd 16 = .ok (.iconst 1, 1) := by decide +kernel
theorem dX7_mustEnd_17 : decode cX7_mustEnd 17 = .ok (.goto 4, 3) := by decide +kernel
theorem dX7_mustEnd_20 : decode cX7_mustEnd 20 = .ok (.iconst 0, 1) := by decide +kernel
theorem dX7_mustEnd_21 : decode cX7_mustEnd 21 = .ok (.invokevirtual 140, 3) := by decide +kernel
theorem dX7_mustEnd_24 : decode cX7_mustEnd 24 = .ok (.return_, 1) := by decide +kernel
theorem dX7_readToll_0 : decode cX7_readToll 0 = .ok (.aload_n 0, 1) := by decide +kernel
theorem dX7_readToll_1 : decode cX7_readToll 1 = .ok (.aload_n 0, 1) := by decide +kernel
theorem dX7_readToll_2 : decode cX7_readToll 2 = .ok (.invokevirtual 154, 3) := by decide +kernel
theorem dX7_readToll_5 : decode cX7_readToll 5 = .ok (.ldc2_w 158, 3) := by decide +kernel
theorem dX7_readToll_8 : decode cX7_readToll 8 = .ok (.lcmp, 1) := by decide +kernel
theorem dX7_readToll_9 : decode cX7_readToll 9 = .ok (.ifCond .ne 7, 3) := by decide +kernel
theorem dX7_readToll_12 : decode cX7_readToll 12 = .ok (.iconst 1, 1) := by decide +kernel
theorem dX7_readToll_13 : decode cX7_readToll 13 = .ok (.goto 4, 3) := by decide +kernel
theorem dX7_readToll_16 : decode cX7_readToll 16 = .ok (.iconst 0, 1) := by decide +kernel
theorem dX7_readToll_17 : decode cX7_readToll 17 = .ok (.invokevirtual 140, 3) := by decide +kernel
theorem dX7_readToll_20 : decode cX7_readToll 20 = .ok (.iconst 0, 1) := by decide +kernel
theorem dX7_readToll_21 : decode cX7_readToll 21 = .ok (.istore_n 1, 1) := by decide +kernel
theorem dX7_readToll_22 : decode cX7_readToll 22 = .ok (.iload_n 1, 1) := by decide +kernel
theorem dX7_readToll_23 : decode cX7_readToll 23 = .ok (.bipush 6, 2) := by decide +kernel
theorem dX7_readToll_25 : decode cX7_readToll 25 = .ok (.if_icmp .ge 24, 3) := by decide +kernel
theorem dX7_readToll_28 : decode cX7_readToll 28 = .ok (.aload_n 0, 1) := by decide +kernel
theorem dX7_readToll_29 : decode cX7_readToll 29 = .ok (.getfield 22, 3) := by decide +kernel
theorem dX7_readToll_32 : decode cX7_readToll 32 = .ok (.iconst 2, 1) := by decide +kernel
theorem dX7_readToll_33 : decode cX7_readToll 33 = .ok (.iload_n 1, 1) := by decide +kernel
theorem dX7_readToll_34 : decode cX7_readToll 34 = .ok (.iadd, 1) := by decide +kernel
theorem dX7_readToll_35 : decode cX7_readToll 35 = .ok (.aload_n 0, 1) := by decide +kernel
theorem dX7_readToll_36 : decode cX7_readToll 36 = .ok (.iconst 0, 1) := by decide +kernel
theorem dX7_readToll_37 : decode cX7_readToll 37 = .ok (.bipush 99, 2) := by decide +kernel
theorem dX7_readToll_39 : decode cX7_readToll 39 = .ok (.invokevirtual 160, 3) := by decide +kernel
theorem dX7_readToll_42 : decode cX7_readToll 42 = .ok (.iastore, 1) := by decide +kernel
theorem dX7_readToll_43 : decode cX7_readToll 43 = .ok (.iinc 1 1, 3) := by decide +kernel
theorem dX7_readToll_46 : decode cX7_readToll 46 = .ok (.goto (-24), 3) := by decide +kernel
theorem dX7_readToll_49 : decode cX7_readToll 49 = .ok (.aload_n 0, 1) := by decide +kernel
theorem dX7_readToll_50 : decode cX7_readToll 50 = .ok (.invokevirtual 164, 3) := by decide +kernel
theorem dX7_readToll_53 : decode cX7_readToll 53 = .ok (.return_, 1) := by decide +kernel
theorem dX7_readCart_0 : decode cX7_readCart 0 = .ok (.aload_n 0, 1) := by decide +kernel
theorem dX7_readCart_1 : decode cX7_readCart 1 = .ok (.getfield 22, 3) := by decide +kernel
theorem dX7_readCart_4 : decode cX7_readCart 4 = .ok (.iconst 0, 1) := by decide +kernel
theorem dX7_readCart_5 : decode cX7_readCart 5 = .ok (.iaload, 1) := by decide +kernel
theorem dX7_readCart_6 : decode cX7_readCart 6 = .ok (.bipush 6, 2) := by decide +kernel
theorem dX7_readCart_8 : decode cX7_readCart 8 = .ok (.if_icmp .ne 8, 3) := by decide +kernel
theorem dX7_readCart_11 : decode cX7_readCart 11 = .ok (.aload_n 0, 1) := by decide +kernel
theorem dX7_readCart_12 : decode cX7_readCart 12 = .ok (.iconst 3, 1) := by decide +kernel
theorem dX7_readCart_13 : decode cX7_readCart 13 = .ok (.invokevirtual 132, 3) := by decide +kernel
theorem dX7_readCart_16 : decode cX7_readCart 16 = .ok (.aload_n 0, 1) := by decide +kernel
theorem dX7_readCart_17 : decode cX7_readCart 17 = .ok (.iconst 1, 1) := by decide +kernel
theorem dX7_readCart_18 : decode cX7_readCart 18 = .ok (.invokevirtual 140, 3) := by decide +kernel
theorem dX7_readCart_21 : decode cX7_readCart 21 = .ok (.aload_n 0, 1) := by decide +kernel
theorem dX7_readCart_22 : decode cX7_readCart 22 = .ok (.invokevirtual 154, 3) := by decide +kernel
theorem dX7_readCart_25 : decode cX7_readCart 25 = .ok (.invokestatic 167, 3) := by decide +kernel
theorem dX7_readCart_28 : decode cX7_readCart 28 = .ok (.istore_n 1, 1) := by decide +kernel
theorem dX7_readCart_29 : decode cX7_readCart 29 = .ok (.aload_n 0, 1) := by decide +kernel
theorem dX7_readCart_30 : decode cX7_readCart 30 = .ok (.getfield 123, 3) := by decide +kernel
theorem dX7_readCart_33 : decode cX7_readCart 33 = .ok (.ifCond .ne 18, 3) := by decide +kernel
theorem dX7_readCart_36 : decode cX7_readCart 36 = .ok (.aload_n 0, 1) := by decide +kernel
theorem dX7_readCart_37 : decode cX7_readCart 37 = .ok (.iload_n 1, 1) := by decide +kernel
theorem dX7_readCart_38 : decode cX7_readCart 38 = .ok (.ldc 101, 2) := by decide +kernel
theorem dX7_readCart_40 : decode cX7_readCart 40 = .ok (.if_icmp .eq 7, 3) := by decide +kernel
theorem dX7_readCart_43 : decode cX7_readCart 43 = .ok (.iconst 1, 1) := by decide +kernel
theorem dX7_readCart_44 : decode cX7_readCart 44 = .ok (.goto 4, 3) := by decide +kernel
theorem dX7_readCart_47 : decode cX7_readCart 47 = .ok (.iconst 0, 1) := by decide +kernel
theorem dX7_readCart_48 : decode cX7_readCart 48 = .ok (.invokevirtual 140, 3) := by decide +kernel
theorem dX7_readCart_51 : decode cX7_readCart 51 = .ok (.aload_n 0, 1) := by decide +kernel
theorem dX7_readCart_52 : decode cX7_readCart 52 = .ok (.iconst 0, 1) := by decide +kernel
theorem dX7_readCart_53 : decode cX7_readCart 53 = .ok (.bipush 11, 2) := by decide +kernel
theorem dX7_readCart_55 : decode cX7_readCart 55 = .ok (.invokevirtual 160, 3) := by decide +kernel
theorem dX7_readCart_58 : decode cX7_readCart 58 = .ok (.istore_n 2, 1) := by decide +kernel
theorem dX7_readCart_59 : decode cX7_readCart 59 = .ok (.aload_n 0, 1) := by decide +kernel
theorem dX7_readCart_60 : decode cX7_readCart 60 = .ok (.iconst 0, 1) := by decide +kernel
theorem dX7_readCart_61 : decode cX7_readCart 61 = .ok (.bipush 20, 2) := by decide +kernel
theorem dX7_readCart_63 : decode cX7_readCart 63 = .ok (.invokevirtual 160, 3) := by decide +kernel
theorem dX7_readCart_66 : decode cX7_readCart 66 = .ok (.istore_n 3, 1) := by decide +kernel
theorem dX7_readCart_67 : decode cX7_readCart 67 = .ok (.aload_n 0, 1) := by decide +kernel
theorem dX7_readCart_68 : decode cX7_readCart 68 = .ok (.iconst 0, 1) := by decide +kernel
theorem dX7_readCart_69 : decode cX7_readCart 69 = .ok (.bipush 11, 2) := by decide +kernel
theorem dX7_readCart_71 : decode cX7_readCart 71 = .ok (.invokevirtual 160, 3) := by decide +kernel
theorem dX7_readCart_74 : decode cX7_readCart 74 = .ok (.istore 4, 2) := by decide +kernel
theorem dX7_readCart_76 : decode cX7_readCart 76 = .ok (.aload_n 0, 1) := by decide +kernel
theorem dX7_readCart_77 : decode cX7_readCart 77 = .ok (.invokevirtual 164, 3) := by decide +kernel
theorem dX7_readCart_80 : decode cX7_readCart 80 = .ok (.aload_n 0, 1) := by decide +kernel
theorem dX7_readCart_81 : decode cX7_readCart 81 = .ok (.getfield 123, 3) := by decide +kernel
theorem dX7_readCart_84 : decode cX7_readCart 84 = .ok (.ifCond .ne 77, 3) := by decide +kernel
theorem dX7_readCart_87 : decode cX7_readCart 87 = .ok (.bipush 8, 2) := by decide +kernel
theorem dX7_readCart_89 : decode cX7_readCart 89 = .ok (.bipush 6, 2) := by decide +kernel
theorem dX7_readCart_91 : decode cX7_readCart 91 = .ok (.aload_n 0, 1) := by decide +kernel
theorem dX7_readCart_92 : decode cX7_readCart 92 = .ok (.getfield 22, 3) := by decide +kernel
theorem dX7_readCart_95 : decode cX7_readCart 95 = .ok (.iconst 0, 1) := by decide +kernel
theorem dX7_readCart_96 : decode cX7_readCart 96 = .ok (.iaload, 1) := by decide +kernel
theorem dX7_readCart_97 : decode cX7_readCart 97 = .ok (.imul, 1) := by decide +kernel
theorem dX7_readCart_98 : decode cX7_readCart 98 = .ok (.iadd, 1) := by decide +kernel
theorem dX7_readCart_99 : decode cX7_readCart 99 = .ok (.istore 5, 2) := by decide +kernel
theorem dX7_readCart_101 : decode cX7_readCart 101 = .ok (.aload_n 0, 1) := by decide +kernel
theorem dX7_readCart_102 : decode cX7_readCart 102 = .ok (.getfield 22, 3) := by decide +kernel
theorem dX7_readCart_105 : decode cX7_readCart 105 = .ok (.iload 5, 2) := by decide +kernel
theorem dX7_readCart_107 : decode cX7_readCart 107 = .ok (.iload_n 1, 1) := by decide +kernel
theorem dX7_readCart_108 : decode cX7_readCart 108 = .ok (.iastore, 1) := by decide +kernel
theorem dX7_readCart_109 : decode cX7_readCart 109 = .ok (.aload_n 0, 1) := by decide +kernel
theorem dX7_readCart_110 : decode cX7_readCart 110 = .ok (.getfield 22, 3) := by decide +kernel
theorem dX7_readCart_113 : decode cX7_readCart 113 = .ok (.iload 5, 2) := by decide +kernel
theorem dX7_readCart_115 : decode cX7_readCart 115 = .ok (.iconst 1, 1) := by decide +kernel
theorem dX7_readCart_116 : decode cX7_readCart 116 = .ok (.iadd, 1) := by decide +kernel
theorem dX7_readCart_117 : decode cX7_readCart 117 = .ok (.iload_n 2, 1) := by decide +kernel
theorem dX7_readCart_118 : decode cX7_readCart 118 = .ok (.iastore, 1) := by decide +kernel
theorem dX7_readCart_119 : decode cX7_readCart 119 = .ok (.aload_n 0, 1) := by decide +kernel
theorem dX7_readCart_120 : decode cX7_readCart 120 = .ok (.getfield 22, 3) := by decide +kernel
theorem dX7_readCart_123 : decode cX7_readCart 123 = .ok (.iload 5, 2) := by decide +kernel
theorem dX7_readCart_125 : decode cX7_readCart 125 = .ok (.iconst 2, 1) := by decide +kernel
theorem dX7_readCart_126 : decode cX7_readCart 126 = .ok (.iadd, 1) := by decide +kernel
theorem dX7_readCart_127 : decode cX7_readCart 127 = .ok (.iload_n 3, 1) := by decide +kernel
theorem dX7_readCart_128 : decode cX7_readCart 128 = .ok (.iastore, 1) := by decide +kernel
theorem dX7_readCart_129 : decode cX7_readCart 129 = .ok (.aload_n 0, 1) := by decide +kernel
theorem dX7_readCart_130 : decode cX7_readCart 130 = .ok (.getfield 22, 3) := by decide +kernel
theorem dX7_readCart_133 : decode cX7_readCart 133 = .ok (.iload 5, 2) := by decide +kernel
theorem dX7_readCart_135 : decode cX7_readCart 135 = .ok (.iconst 3, 1) := by decide +kernel
theorem dX7_readCart_136 : decode cX7_readCart 136 = .ok (.iadd, 1) := by decide +kernel
theorem dX7_readCart_137 : decode cX7_readCart 137 = .ok (.iload 4, 2) := by decide +kernel
theorem dX7_readCart_139 : decode cX7_readCart 139 = .ok (.iastore, 1) := by decide +kernel
theorem dX7_readCart_140 : decode cX7_readCart 140 = .ok (.aload_n 0, 1) := by decide +kernel
theorem dX7_readCart_141 : decode cX7_readCart 141 = .ok (.getfield 22, 3) := by decide +kernel
theorem dX7_readCart_144 : decode cX7_readCart 144 = .ok (.iload 5, 2) := by decide +kernel
theorem dX7_readCart_146 : decode cX7_readCart 146 = .ok (.iconst 4, 1) := by decide +kernel
theorem dX7_readCart_147 : decode cX7_readCart 147 = .ok (.iadd, 1) := by decide +kernel
theorem dX7_readCart_148 : decode cX7_readCart 148 = .ok (.ldc 101, 2) := by decide +kernel
theorem dX7_readCart_150 : decode cX7_readCart 150 = .ok (.iastore, 1) := by decide +kernel
theorem dX7_readCart_151 : decode cX7_readCart 151 = .ok (.aload_n 0, 1) := by decide +kernel
theorem dX7_readCart_152 : decode cX7_readCart 152 = .ok (.getfield 22, 3) := by decide +kernel
theorem dX7_readCart_155 : decode cX7_readCart 155 = .ok (.iconst 0, 1) := by decide +kernel
theorem dX7_readCart_156 : decode cX7_readCart 156 = .ok (.dup2, 1) := by decide +kernel
theorem dX7_readCart_157 : decode cX7_readCart 157 = .ok (.iaload, 1) := by decide +kernel
theorem dX7_readCart_158 : decode cX7_readCart 158 = .ok (.iconst 1, 1) := by decide +kernel
theorem dX7_readCart_159 : decode cX7_readCart 159 = .ok (.iadd, 1) := by decide +kernel
theorem dX7_readCart_160 : decode cX7_readCart 160 = .ok (.iastore, 1) := by decide +kernel
theorem dX7_readCart_161 : decode cX7_readCart 161 = .ok (.return_, 1) := by decide +kernel
theorem dX7_pass_0 : decode cX7_pass 0 = .ok (.aload_n 0, 1) := by decide +kernel
theorem dX7_pass_1 : decode cX7_pass 1 = .ok (.iconst 0, 1) := by decide +kernel
theorem dX7_pass_2 : decode cX7_pass 2 = .ok (.putfield 65, 3) := by decide +kernel
theorem dX7_pass_5 : decode cX7_pass 5 = .ok (.aload_n 0, 1) := by decide +kernel
theorem dX7_pass_6 : decode cX7_pass 6 = .ok (.invokevirtual 171, 3) := by decide +kernel
theorem dX7_pass_9 : decode cX7_pass 9 = .ok (.iconst 0, 1) := by decide +kernel
theorem dX7_pass_10 : decode cX7_pass 10 = .ok (.istore_n 1, 1) := by decide +kernel
theorem dX7_pass_11 : decode cX7_pass 11 = .ok (.iload_n 1, 1) := by decide +kernel
theorem dX7_pass_12 : decode cX7_pass 12 = .ok (.bipush 44, 2) := by decide +kernel
theorem dX7_pass_14 : decode cX7_pass 14 = .ok (.if_icmp .ge 16, 3) := by decide +kernel
theorem dX7_pass_17 : decode cX7_pass 17 = .ok (.aload_n 0, 1) := by decide +kernel
theorem dX7_pass_18 : decode cX7_pass 18 = .ok (.getfield 22, 3) := by decide +kernel
theorem dX7_pass_21 : decode cX7_pass 21 = .ok (.iload_n 1, 1) := by decide +kernel
theorem dX7_pass_22 : decode cX7_pass 22 = .ok (.iconst 0, 1) := by decide +kernel
theorem dX7_pass_23 : decode cX7_pass 23 = .ok (.iastore, 1) := by decide +kernel
theorem dX7_pass_24 : decode cX7_pass 24 = .ok (.iinc 1 1, 3) := by decide +kernel
theorem dX7_pass_27 : decode cX7_pass 27 = .ok (.goto (-16), 3) := by decide +kernel
theorem dX7_pass_30 : decode cX7_pass 30 = .ok (.aload_n 0, 1) := by decide +kernel
theorem dX7_pass_31 : decode cX7_pass 31 = .ok (.invokevirtual 174, 3) := by decide +kernel
theorem dX7_pass_34 : decode cX7_pass 34 = .ok (.aload_n 0, 1) := by decide +kernel
theorem dX7_pass_35 : decode cX7_pass 35 = .ok (.invokevirtual 154, 3) := by decide +kernel
theorem dX7_pass_38 : decode cX7_pass 38 = .ok (.ldc2_w 177, 3) := by decide +kernel
theorem dX7_pass_41 : decode cX7_pass 41 = .ok (.lcmp, 1) := by decide +kernel
theorem dX7_pass_42 : decode cX7_pass 42 = .ok (.ifCond .ne 10, 3) := by decide +kernel
theorem dX7_pass_45 : decode cX7_pass 45 = .ok (.aload_n 0, 1) := by decide +kernel
theorem dX7_pass_46 : decode cX7_pass 46 = .ok (.invokevirtual 179, 3) := by decide +kernel
theorem dX7_pass_49 : decode cX7_pass 49 = .ok (.goto (-15), 3) := by decide +kernel
theorem dX7_pass_52 : decode cX7_pass 52 = .ok (.aload_n 0, 1) := by decide +kernel
theorem dX7_pass_53 : decode cX7_pass 53 = .ok (.getfield 123, 3) := by decide +kernel
theorem dX7_pass_56 : decode cX7_pass 56 = .ok (.ifCond .ne 16, 3) := by decide +kernel
theorem dX7_pass_59 : decode cX7_pass 59 = .ok (.aload_n 0, 1) := by decide +kernel
theorem dX7_pass_60 : decode cX7_pass 60 = .ok (.getfield 111, 3) := by decide +kernel
theorem dX7_pass_63 : decode cX7_pass 63 = .ok (.iconst 1, 1) := by decide +kernel
theorem dX7_pass_64 : decode cX7_pass 64 = .ok (.if_icmp .eq 8, 3) := by decide +kernel
theorem dX7_pass_67 : decode cX7_pass 67 = .ok (.aload_n 0, 1) := by decide +kernel
theorem dX7_pass_68 : decode cX7_pass 68 = .ok (.iconst 1, 1) := by decide +kernel
theorem dX7_pass_69 : decode cX7_pass 69 = .ok (.invokevirtual 132, 3) := by decide +kernel
theorem dX7_pass_72 : decode cX7_pass 72 = .ok (.aload_n 0, 1) := by decide +kernel
theorem dX7_pass_73 : decode cX7_pass 73 = .ok (.getfield 123, 3) := by decide +kernel
theorem dX7_pass_76 : decode cX7_pass 76 = .ok (.ifCond .le 19, 3) := by decide +kernel
theorem dX7_pass_79 : decode cX7_pass 79 = .ok (.aload_n 0, 1) := by decide +kernel
theorem dX7_pass_80 : decode cX7_pass 80 = .ok (.aload_n 0, 1) := by decide +kernel
theorem dX7_pass_81 : decode cX7_pass 81 = .ok (.getfield 123, 3) := by decide +kernel
theorem dX7_pass_84 : decode cX7_pass 84 = .ok (.putfield 182, 3) := by decide +kernel
theorem dX7_pass_87 : decode cX7_pass 87 = .ok (.ldc 185, 2) := by decide +kernel
theorem dX7_pass_89 : decode cX7_pass 89 = .ok (.aload_n 0, 1) := by decide +kernel
theorem dX7_pass_90 : decode cX7_pass 90 = .ok (.getfield 129, 3) := by decide +kernel
theorem dX7_pass_93 : decode cX7_pass 93 = .ok (.isub, 1) := by decide +kernel
theorem dX7_pass_94 : decode cX7_pass 94 = .ok (.ireturn, 1) := by decide +kernel
theorem dX7_pass_95 : decode cX7_pass 95 = .ok (.aload_n 0, 1) := by decide +kernel
theorem dX7_pass_96 : decode cX7_pass 96 = .ok (.iconst 1, 1) := by decide +kernel
theorem dX7_pass_97 : decode cX7_pass 97 = .ok (.putfield 186, 3) := by decide +kernel
theorem dX7_pass_100 : decode cX7_pass 100 = .ok (.aload_n 0, 1) := by decide +kernel
theorem dX7_pass_101 : decode cX7_pass 101 = .ok (.iconst 0, 1) := by decide +kernel
theorem dX7_pass_102 : decode cX7_pass 102 = .ok (.putfield 190, 3) := by decide +kernel
theorem dX7_pass_105 : decode cX7_pass 105 = .ok (.iconst 0, 1) := by decide +kernel
theorem dX7_pass_106 : decode cX7_pass 106 = .ok (.istore_n 1, 1) := by decide +kernel
theorem dX7_pass_107 : decode cX7_pass 107 = .ok (.iload_n 1, 1) := by decide +kernel
theorem dX7_pass_108 : decode cX7_pass 108 = .ok (.bipush 44, 2) := by decide +kernel
theorem dX7_pass_110 : decode cX7_pass 110 = .ok (.if_icmp .ge 21, 3) := by decide +kernel
theorem dX7_pass_113 : decode cX7_pass 113 = .ok (.aload_n 0, 1) := by decide +kernel
theorem dX7_pass_114 : decode cX7_pass 114 = .ok (.getfield 19, 3) := by decide +kernel
theorem dX7_pass_117 : decode cX7_pass 117 = .ok (.iload_n 1, 1) := by decide +kernel
theorem dX7_pass_118 : decode cX7_pass 118 = .ok (.aload_n 0, 1) := by decide +kernel
theorem dX7_pass_119 : decode cX7_pass 119 = .ok (.getfield 22, 3) := by decide +kernel
theorem dX7_pass_122 : decode cX7_pass 122 = .ok (.iload_n 1, 1) := by decide +kernel
theorem dX7_pass_123 : decode cX7_pass 123 = .ok (.iaload, 1) := by decide +kernel
theorem dX7_pass_124 : decode cX7_pass 124 = .ok (.iastore, 1) := by decide +kernel
theorem dX7_pass_125 : decode cX7_pass 125 = .ok (.iinc 1 1, 3) := by decide +kernel
theorem dX7_pass_128 : decode cX7_pass 128 = .ok (.goto (-21), 3) := by decide +kernel
theorem dX7_pass_131 : decode cX7_pass 131 = .ok (.aload_n 0, 1) := by decide +kernel
theorem dX7_pass_132 : decode cX7_pass 132 = .ok (.getfield 19, 3) := by decide +kernel
theorem dX7_pass_135 : decode cX7_pass 135 = .ok (.iconst 0, 1) := by decide +kernel
theorem dX7_pass_136 : decode cX7_pass 136 = .ok (.iaload, 1) := by decide +kernel
theorem dX7_pass_137 : decode cX7_pass 137 = .ok (.ireturn, 1) := by decide +kernel
theorem dX7_fault_0 : decode cX7_fault 0 = .ok (.aload_n 0, 1) := by decide +kernel
theorem dX7_fault_1 : decode cX7_fault 1 = .ok (.iconst 0, 1) := by decide +kernel
theorem dX7_fault_2 : decode cX7_fault 2 = .ok (.putfield 65, 3) := by decide +kernel
theorem dX7_fault_5 : decode cX7_fault 5 = .ok (.aload_n 0, 1) := by decide +kernel
theorem dX7_fault_6 : decode cX7_fault 6 = .ok (.getfield 182, 3) := by decide +kernel
theorem dX7_fault_9 : decode cX7_fault 9 = .ok (.ireturn, 1) := by decide +kernel
theorem dX7_isCart_0 : decode cX7_isCart 0 = .ok (.iload_n 1, 1) := by decide +kernel
theorem dX7_isCart_1 : decode cX7_isCart 1 = .ok (.i2l, 1) := by decide +kernel
theorem dX7_isCart_2 : decode cX7_isCart 2 = .ok (.lconst 0, 1) := by decide +kernel
theorem dX7_isCart_3 : decode cX7_isCart 3 = .ok (.aload_n 0, 1) := by decide +kernel
theorem dX7_isCart_4 : decode cX7_isCart 4 = .ok (.getfield 19, 3) := by decide +kernel
theorem dX7_isCart_7 : decode cX7_isCart 7 = .ok (.iconst 0, 1) := by decide +kernel
theorem dX7_isCart_8 : decode cX7_isCart 8 = .ok (.iaload, 1) := by decide +kernel
theorem dX7_isCart_9 : decode cX7_isCart 9 = .ok (.iconst 1, 1) := by decide +kernel
theorem dX7_isCart_10 : decode cX7_isCart 10 = .ok (.isub, 1) := by decide +kernel
theorem dX7_isCart_11 : decode cX7_isCart 11 = .ok (.i2l, 1) := by decide +kernel
theorem dX7_isCart_12 : decode cX7_isCart 12 = .ok (.invokestatic 75, 3) := by decide +kernel
theorem dX7_isCart_15 : decode cX7_isCart 15 = .ok (.ireturn, 1) := by decide +kernel
theorem dX7_isHour_0 : decode cX7_isHour 0 = .ok (.iload_n 0, 1) := by decide +kernel
theorem dX7_isHour_1 : decode cX7_isHour 1 = .ok (.i2l, 1) := by decide +kernel
theorem dX7_isHour_2 : decode cX7_isHour 2 = .ok (.lconst 0, 1) := by decide +kernel
theorem dX7_isHour_3 : decode cX7_isHour 3 = .ok (.ldc2_w 193, 3) := by decide +kernel
end
section
theorem dX7_isHour_6 : decode cX7_isHour 6 = .ok (.invokestatic 75, 3) := by decide +kernel
theorem dX7_isHour_9 : decode cX7_isHour 9 = .ok (.ireturn, 1) := by decide +kernel
theorem dX7_of_0 : decode cX7_of 0 = .ok (.aload_n 0, 1) := by decide +kernel
theorem dX7_of_1 : decode cX7_of 1 = .ok (.getfield 19, 3) := by decide +kernel
theorem dX7_of_4 : decode cX7_of 4 = .ok (.bipush 8, 2) := by decide +kernel
theorem dX7_of_6 : decode cX7_of 6 = .ok (.bipush 6, 2) := by decide +kernel
theorem dX7_of_8 : decode cX7_of 8 = .ok (.iload_n 1, 1) := by decide +kernel
theorem dX7_of_9 : decode cX7_of 9 = .ok (.imul, 1) := by decide +kernel
theorem dX7_of_10 : decode cX7_of 10 = .ok (.iadd, 1) := by decide +kernel
theorem dX7_of_11 : decode cX7_of 11 = .ok (.iload_n 2, 1) := by decide +kernel
theorem dX7_of_12 : decode cX7_of 12 = .ok (.iadd, 1) := by decide +kernel
theorem dX7_of_13 : decode cX7_of 13 = .ok (.iaload, 1) := by decide +kernel
theorem dX7_of_14 : decode cX7_of 14 = .ok (.ireturn, 1) := by decide +kernel
theorem dX7_tollFor_0 : decode cX7_tollFor 0 = .ok (.aload_n 0, 1) := by decide +kernel
theorem dX7_tollFor_1 : decode cX7_tollFor 1 = .ok (.getfield 19, 3) := by decide +kernel
theorem dX7_tollFor_4 : decode cX7_tollFor 4 = .ok (.iconst 2, 1) := by decide +kernel
theorem dX7_tollFor_5 : decode cX7_tollFor 5 = .ok (.iload_n 1, 1) := by decide +kernel
theorem dX7_tollFor_6 : decode cX7_tollFor 6 = .ok (.bipush 6, 2) := by decide +kernel
theorem dX7_tollFor_8 : decode cX7_tollFor 8 = .ok (.if_icmp .le 8, 3) := by decide +kernel
theorem dX7_tollFor_11 : decode cX7_tollFor 11 = .ok (.bipush 6, 2) := by decide +kernel
theorem dX7_tollFor_13 : decode cX7_tollFor 13 = .ok (.goto 4, 3) := by decide +kernel
theorem dX7_tollFor_16 : decode cX7_tollFor 16 = .ok (.iload_n 1, 1) := by decide +kernel
theorem dX7_tollFor_17 : decode cX7_tollFor 17 = .ok (.iadd, 1) := by decide +kernel
theorem dX7_tollFor_18 : decode cX7_tollFor 18 = .ok (.iconst 1, 1) := by decide +kernel
theorem dX7_tollFor_19 : decode cX7_tollFor 19 = .ok (.isub, 1) := by decide +kernel
theorem dX7_tollFor_20 : decode cX7_tollFor 20 = .ok (.iaload, 1) := by decide +kernel
theorem dX7_tollFor_21 : decode cX7_tollFor 21 = .ok (.ireturn, 1) := by decide +kernel
theorem dX7_layNow_0 : decode cX7_layNow 0 = .ok (.aload_n 0, 1) := by decide +kernel
theorem dX7_layNow_1 : decode cX7_layNow 1 = .ok (.aload_n 0, 1) := by decide +kernel
theorem dX7_layNow_2 : decode cX7_layNow 2 = .ok (.getfield 19, 3) := by decide +kernel
theorem dX7_layNow_5 : decode cX7_layNow 5 = .ok (.iconst 0, 1) := by decide +kernel
theorem dX7_layNow_6 : decode cX7_layNow 6 = .ok (.iaload, 1) := by decide +kernel
theorem dX7_layNow_7 : decode cX7_layNow 7 = .ok (.putfield 195, 3) := by decide +kernel
theorem dX7_layNow_10 : decode cX7_layNow 10 = .ok (.aload_n 0, 1) := by decide +kernel
theorem dX7_layNow_11 : decode cX7_layNow 11 = .ok (.iconst 0, 1) := by decide +kernel
theorem dX7_layNow_12 : decode cX7_layNow 12 = .ok (.putfield 198, 3) := by decide +kernel
theorem dX7_layNow_15 : decode cX7_layNow 15 = .ok (.iconst 0, 1) := by decide +kernel
theorem dX7_layNow_16 : decode cX7_layNow 16 = .ok (.istore_n 1, 1) := by decide +kernel
theorem dX7_layNow_17 : decode cX7_layNow 17 = .ok (.iload_n 1, 1) := by decide +kernel
theorem dX7_layNow_18 : decode cX7_layNow 18 = .ok (.aload_n 0, 1) := by decide +kernel
theorem dX7_layNow_19 : decode cX7_layNow 19 = .ok (.getfield 195, 3) := by decide +kernel
theorem dX7_layNow_22 : decode cX7_layNow 22 = .ok (.if_icmp .ge 81, 3) := by decide +kernel
theorem dX7_layNow_25 : decode cX7_layNow 25 = .ok (.aload_n 0, 1) := by decide +kernel
theorem dX7_layNow_26 : decode cX7_layNow 26 = .ok (.getfield 31, 3) := by decide +kernel
theorem dX7_layNow_29 : decode cX7_layNow 29 = .ok (.iload_n 1, 1) := by decide +kernel
theorem dX7_layNow_30 : decode cX7_layNow 30 = .ok (.aload_n 0, 1) := by decide +kernel
theorem dX7_layNow_31 : decode cX7_layNow 31 = .ok (.iload_n 1, 1) := by decide +kernel
theorem dX7_layNow_32 : decode cX7_layNow 32 = .ok (.iconst 0, 1) := by decide +kernel
theorem dX7_layNow_33 : decode cX7_layNow 33 = .ok (.invokevirtual 201, 3) := by decide +kernel
theorem dX7_layNow_36 : decode cX7_layNow 36 = .ok (.iastore, 1) := by decide +kernel
theorem dX7_layNow_37 : decode cX7_layNow 37 = .ok (.aload_n 0, 1) := by decide +kernel
theorem dX7_layNow_38 : decode cX7_layNow 38 = .ok (.getfield 34, 3) := by decide +kernel
theorem dX7_layNow_41 : decode cX7_layNow 41 = .ok (.iload_n 1, 1) := by decide +kernel
theorem dX7_layNow_42 : decode cX7_layNow 42 = .ok (.aload_n 0, 1) := by decide +kernel
theorem dX7_layNow_43 : decode cX7_layNow 43 = .ok (.iload_n 1, 1) := by decide +kernel
theorem dX7_layNow_44 : decode cX7_layNow 44 = .ok (.iconst 1, 1) := by decide +kernel
theorem dX7_layNow_45 : decode cX7_layNow 45 = .ok (.invokevirtual 201, 3) := by decide +kernel
theorem dX7_layNow_48 : decode cX7_layNow 48 = .ok (.iastore, 1) := by decide +kernel
theorem dX7_layNow_49 : decode cX7_layNow 49 = .ok (.aload_n 0, 1) := by decide +kernel
theorem dX7_layNow_50 : decode cX7_layNow 50 = .ok (.getfield 37, 3) := by decide +kernel
theorem dX7_layNow_53 : decode cX7_layNow 53 = .ok (.iload_n 1, 1) := by decide +kernel
theorem dX7_layNow_54 : decode cX7_layNow 54 = .ok (.aload_n 0, 1) := by decide +kernel
theorem dX7_layNow_55 : decode cX7_layNow 55 = .ok (.iload_n 1, 1) := by decide +kernel
theorem dX7_layNow_56 : decode cX7_layNow 56 = .ok (.iconst 2, 1) := by decide +kernel
theorem dX7_layNow_57 : decode cX7_layNow 57 = .ok (.invokevirtual 201, 3) := by decide +kernel
theorem dX7_layNow_60 : decode cX7_layNow 60 = .ok (.iastore, 1) := by decide +kernel
theorem dX7_layNow_61 : decode cX7_layNow 61 = .ok (.aload_n 0, 1) := by decide +kernel
theorem dX7_layNow_62 : decode cX7_layNow 62 = .ok (.getfield 40, 3) := by decide +kernel
theorem dX7_layNow_65 : decode cX7_layNow 65 = .ok (.iload_n 1, 1) := by decide +kernel
theorem dX7_layNow_66 : decode cX7_layNow 66 = .ok (.aload_n 0, 1) := by decide +kernel
theorem dX7_layNow_67 : decode cX7_layNow 67 = .ok (.iload_n 1, 1) := by decide +kernel
theorem dX7_layNow_68 : decode cX7_layNow 68 = .ok (.iconst 3, 1) := by decide +kernel
theorem dX7_layNow_69 : decode cX7_layNow 69 = .ok (.invokevirtual 201, 3) := by decide +kernel
theorem dX7_layNow_72 : decode cX7_layNow 72 = .ok (.iastore, 1) := by decide +kernel
theorem dX7_layNow_73 : decode cX7_layNow 73 = .ok (.aload_n 0, 1) := by decide +kernel
theorem dX7_layNow_74 : decode cX7_layNow 74 = .ok (.getfield 43, 3) := by decide +kernel
theorem dX7_layNow_77 : decode cX7_layNow 77 = .ok (.iload_n 1, 1) := by decide +kernel
theorem dX7_layNow_78 : decode cX7_layNow 78 = .ok (.aload_n 0, 1) := by decide +kernel
theorem dX7_layNow_79 : decode cX7_layNow 79 = .ok (.iload_n 1, 1) := by decide +kernel
theorem dX7_layNow_80 : decode cX7_layNow 80 = .ok (.iconst 4, 1) := by decide +kernel
theorem dX7_layNow_81 : decode cX7_layNow 81 = .ok (.invokevirtual 201, 3) := by decide +kernel
theorem dX7_layNow_84 : decode cX7_layNow 84 = .ok (.iastore, 1) := by decide +kernel
theorem dX7_layNow_85 : decode cX7_layNow 85 = .ok (.aload_n 0, 1) := by decide +kernel
theorem dX7_layNow_86 : decode cX7_layNow 86 = .ok (.getfield 46, 3) := by decide +kernel
theorem dX7_layNow_89 : decode cX7_layNow 89 = .ok (.iload_n 1, 1) := by decide +kernel
theorem dX7_layNow_90 : decode cX7_layNow 90 = .ok (.aload_n 0, 1) := by decide +kernel
theorem dX7_layNow_91 : decode cX7_layNow 91 = .ok (.iload_n 1, 1) := by decide +kernel
theorem dX7_layNow_92 : decode cX7_layNow 92 = .ok (.iconst 5, 1) := by decide +kernel
theorem dX7_layNow_93 : decode cX7_layNow 93 = .ok (.invokevirtual 201, 3) := by decide +kernel
theorem dX7_layNow_96 : decode cX7_layNow 96 = .ok (.iastore, 1) := by decide +kernel
theorem dX7_layNow_97 : decode cX7_layNow 97 = .ok (.iinc 1 1, 3) := by decide +kernel
theorem dX7_layNow_100 : decode cX7_layNow 100 = .ok (.goto (-83), 3) := by decide +kernel
theorem dX7_layNow_103 : decode cX7_layNow 103 = .ok (.return_, 1) := by decide +kernel
theorem dX7_stands_0 : decode cX7_stands 0 = .ok (.aload_n 0, 1) := by decide +kernel
theorem dX7_stands_1 : decode cX7_stands 1 = .ok (.getfield 34, 3) := by decide +kernel
theorem dX7_stands_4 : decode cX7_stands 4 = .ok (.iload_n 1, 1) := by decide +kernel
theorem dX7_stands_5 : decode cX7_stands 5 = .ok (.iaload, 1) := by decide +kernel
theorem dX7_stands_6 : decode cX7_stands 6 = .ok (.iload_n 2, 1) := by decide +kernel
theorem dX7_stands_7 : decode cX7_stands 7 = .ok (.if_icmp .gt 18, 3) := by decide +kernel
theorem dX7_stands_10 : decode cX7_stands 10 = .ok (.aload_n 0, 1) := by decide +kernel
theorem dX7_stands_11 : decode cX7_stands 11 = .ok (.getfield 43, 3) := by decide +kernel
theorem dX7_stands_14 : decode cX7_stands 14 = .ok (.iload_n 1, 1) := by decide +kernel
theorem dX7_stands_15 : decode cX7_stands 15 = .ok (.iaload, 1) := by decide +kernel
theorem dX7_stands_16 : decode cX7_stands 16 = .ok (.ldc 101, 2) := by decide +kernel
theorem dX7_stands_18 : decode cX7_stands 18 = .ok (.if_icmp .ne 7, 3) := by decide +kernel
theorem dX7_stands_21 : decode cX7_stands 21 = .ok (.iconst 1, 1) := by decide +kernel
theorem dX7_stands_22 : decode cX7_stands 22 = .ok (.goto 4, 3) := by decide +kernel
theorem dX7_stands_25 : decode cX7_stands 25 = .ok (.iconst 0, 1) := by decide +kernel
theorem dX7_stands_26 : decode cX7_stands 26 = .ok (.ireturn, 1) := by decide +kernel
theorem dX7_standing_0 : decode cX7_standing 0 = .ok (.iconst 0, 1) := by decide +kernel
theorem dX7_standing_1 : decode cX7_standing 1 = .ok (.istore_n 2, 1) := by decide +kernel
theorem dX7_standing_2 : decode cX7_standing 2 = .ok (.iconst 0, 1) := by decide +kernel
theorem dX7_standing_3 : decode cX7_standing 3 = .ok (.istore_n 3, 1) := by decide +kernel
theorem dX7_standing_4 : decode cX7_standing 4 = .ok (.iload_n 3, 1) := by decide +kernel
theorem dX7_standing_5 : decode cX7_standing 5 = .ok (.aload_n 0, 1) := by decide +kernel
theorem dX7_standing_6 : decode cX7_standing 6 = .ok (.getfield 195, 3) := by decide +kernel
theorem dX7_standing_9 : decode cX7_standing 9 = .ok (.if_icmp .ge 26, 3) := by decide +kernel
theorem dX7_standing_12 : decode cX7_standing 12 = .ok (.iload_n 2, 1) := by decide +kernel
theorem dX7_standing_13 : decode cX7_standing 13 = .ok (.aload_n 0, 1) := by decide +kernel
theorem dX7_standing_14 : decode cX7_standing 14 = .ok (.iload_n 3, 1) := by decide +kernel
theorem dX7_standing_15 : decode cX7_standing 15 = .ok (.iload_n 1, 1) := by decide +kernel
theorem dX7_standing_16 : decode cX7_standing 16 = .ok (.invokevirtual 204, 3) := by decide +kernel
theorem dX7_standing_19 : decode cX7_standing 19 = .ok (.ifCond .eq 7, 3) := by decide +kernel
theorem dX7_standing_22 : decode cX7_standing 22 = .ok (.iconst 1, 1) := by decide +kernel
theorem dX7_standing_23 : decode cX7_standing 23 = .ok (.goto 4, 3) := by decide +kernel
theorem dX7_standing_26 : decode cX7_standing 26 = .ok (.iconst 0, 1) := by decide +kernel
theorem dX7_standing_27 : decode cX7_standing 27 = .ok (.iadd, 1) := by decide +kernel
theorem dX7_standing_28 : decode cX7_standing 28 = .ok (.istore_n 2, 1) := by decide +kernel
theorem dX7_standing_29 : decode cX7_standing 29 = .ok (.iinc 3 1, 3) := by decide +kernel
theorem dX7_standing_32 : decode cX7_standing 32 = .ok (.goto (-28), 3) := by decide +kernel
theorem dX7_standing_35 : decode cX7_standing 35 = .ok (.iload_n 2, 1) := by decide +kernel
theorem dX7_standing_36 : decode cX7_standing 36 = .ok (.ireturn, 1) := by decide +kernel
theorem dX7_isReady_0 : decode cX7_isReady 0 = .ok (.aload_n 0, 1) := by decide +kernel
theorem dX7_isReady_1 : decode cX7_isReady 1 = .ok (.iload_n 1, 1) := by decide +kernel
theorem dX7_isReady_2 : decode cX7_isReady 2 = .ok (.iload_n 2, 1) := by decide +kernel
theorem dX7_isReady_3 : decode cX7_isReady 3 = .ok (.invokevirtual 204, 3) := by decide +kernel
theorem dX7_isReady_6 : decode cX7_isReady 6 = .ok (.ifCond .ne 5, 3) := by decide +kernel
theorem dX7_isReady_9 : decode cX7_isReady 9 = .ok (.iconst 0, 1) := by decide +kernel
theorem dX7_isReady_10 : decode cX7_isReady 10 = .ok (.ireturn, 1) := by decide +kernel
theorem dX7_isReady_11 : decode cX7_isReady 11 = .ok (.iload_n 2, 1) := by decide +kernel
theorem dX7_isReady_12 : decode cX7_isReady 12 = .ok (.aload_n 0, 1) := by decide +kernel
theorem dX7_isReady_13 : decode cX7_isReady 13 = .ok (.getfield 34, 3) := by decide +kernel
theorem dX7_isReady_16 : decode cX7_isReady 16 = .ok (.iload_n 1, 1) := by decide +kernel
theorem dX7_isReady_17 : decode cX7_isReady 17 = .ok (.iaload, 1) := by decide +kernel
theorem dX7_isReady_18 : decode cX7_isReady 18 = .ok (.aload_n 0, 1) := by decide +kernel
theorem dX7_isReady_19 : decode cX7_isReady 19 = .ok (.getfield 40, 3) := by decide +kernel
theorem dX7_isReady_22 : decode cX7_isReady 22 = .ok (.iload_n 1, 1) := by decide +kernel
theorem dX7_isReady_23 : decode cX7_isReady 23 = .ok (.iaload, 1) := by decide +kernel
theorem dX7_isReady_24 : decode cX7_isReady 24 = .ok (.iadd, 1) := by decide +kernel
theorem dX7_isReady_25 : decode cX7_isReady 25 = .ok (.if_icmp .lt 7, 3) := by decide +kernel
theorem dX7_isReady_28 : decode cX7_isReady 28 = .ok (.iconst 1, 1) := by decide +kernel
theorem dX7_isReady_29 : decode cX7_isReady 29 = .ok (.goto 4, 3) := by decide +kernel
theorem dX7_isReady_32 : decode cX7_isReady 32 = .ok (.iconst 0, 1) := by decide +kernel
theorem dX7_isReady_33 : decode cX7_isReady 33 = .ok (.istore_n 3, 1) := by decide +kernel
theorem dX7_isReady_34 : decode cX7_isReady 34 = .ok (.aload_n 0, 1) := by decide +kernel
theorem dX7_isReady_35 : decode cX7_isReady 35 = .ok (.getfield 31, 3) := by decide +kernel
theorem dX7_isReady_38 : decode cX7_isReady 38 = .ok (.iload_n 1, 1) := by decide +kernel
theorem dX7_isReady_39 : decode cX7_isReady 39 = .ok (.iaload, 1) := by decide +kernel
theorem dX7_isReady_40 : decode cX7_isReady 40 = .ok (.tableswitch 71 2 5 #[46, 34, 71, 32], 32) := by decide +kernel
theorem dX7_isReady_72 : decode cX7_isReady 72 = .ok (.iconst 1, 1) := by decide +kernel
theorem dX7_isReady_73 : decode cX7_isReady 73 = .ok (.ireturn, 1) := by decide +kernel
theorem dX7_isReady_74 : decode cX7_isReady 74 = .ok (.iload_n 2, 1) := by decide +kernel
theorem dX7_isReady_75 : decode cX7_isReady 75 = .ok (.bipush 11, 2) := by decide +kernel
theorem dX7_isReady_77 : decode cX7_isReady 77 = .ok (.if_icmp .ne 7, 3) := by decide +kernel
theorem dX7_isReady_80 : decode cX7_isReady 80 = .ok (.iconst 1, 1) := by decide +kernel
theorem dX7_isReady_81 : decode cX7_isReady 81 = .ok (.goto 4, 3) := by decide +kernel
theorem dX7_isReady_84 : decode cX7_isReady 84 = .ok (.iconst 0, 1) := by decide +kernel
theorem dX7_isReady_85 : decode cX7_isReady 85 = .ok (.ireturn, 1) := by decide +kernel
theorem dX7_isReady_86 : decode cX7_isReady 86 = .ok (.iload_n 2, 1) := by decide +kernel
theorem dX7_isReady_87 : decode cX7_isReady 87 = .ok (.bipush 11, 2) := by decide +kernel
theorem dX7_isReady_89 : decode cX7_isReady 89 = .ok (.if_icmp .eq 16, 3) := by decide +kernel
theorem dX7_isReady_92 : decode cX7_isReady 92 = .ok (.iload_n 3, 1) := by decide +kernel
theorem dX7_isReady_93 : decode cX7_isReady 93 = .ok (.ifCond .ne 12, 3) := by decide +kernel
theorem dX7_isReady_96 : decode cX7_isReady 96 = .ok (.aload_n 0, 1) := by decide +kernel
theorem dX7_isReady_97 : decode cX7_isReady 97 = .ok (.iload_n 2, 1) := by decide +kernel
theorem dX7_isReady_98 : decode cX7_isReady 98 = .ok (.invokevirtual 208, 3) := by decide +kernel
theorem dX7_isReady_101 : decode cX7_isReady 101 = .ok (.iconst 3, 1) := by decide +kernel
theorem dX7_isReady_102 : decode cX7_isReady 102 = .ok (.if_icmp .lt 7, 3) := by decide +kernel
theorem dX7_isReady_105 : decode cX7_isReady 105 = .ok (.iconst 1, 1) := by decide +kernel
theorem dX7_isReady_106 : decode cX7_isReady 106 = .ok (.goto 4, 3) := by decide +kernel
theorem dX7_isReady_109 : decode cX7_isReady 109 = .ok (.iconst 0, 1) := by decide +kernel
theorem dX7_isReady_110 : decode cX7_isReady 110 = .ok (.ireturn, 1) := by decide +kernel
theorem dX7_isReady_111 : decode cX7_isReady 111 = .ok (.iload_n 2, 1) := by decide +kernel
theorem dX7_isReady_112 : decode cX7_isReady 112 = .ok (.bipush 11, 2) := by decide +kernel
theorem dX7_isReady_114 : decode cX7_isReady 114 = .ok (.if_icmp .eq 7, 3) := by decide +kernel
theorem dX7_isReady_117 : decode cX7_isReady 117 = .ok (.iload_n 3, 1) := by decide +kernel
theorem dX7_isReady_118 : decode cX7_isReady 118 = .ok (.ifCond .eq 7, 3) := by decide +kernel
theorem dX7_isReady_121 : decode cX7_isReady 121 = .ok (.iconst 1, 1) := by decide +kernel
theorem dX7_isReady_122 : decode cX7_isReady 122 = .ok (.goto 4, 3) := by decide +kernel
theorem dX7_isReady_125 : decode cX7_isReady 125 = .ok (.iconst 0, 1) := by decide +kernel
theorem dX7_isReady_126 : decode cX7_isReady 126 = .ok (.ireturn, 1) := by decide +kernel
theorem dX7_isAhead_0 : decode cX7_isAhead 0 = .ok (.aload_n 0, 1) := by decide +kernel
theorem dX7_isAhead_1 : decode cX7_isAhead 1 = .ok (.getfield 31, 3) := by decide +kernel
theorem dX7_isAhead_4 : decode cX7_isAhead 4 = .ok (.iload_n 1, 1) := by decide +kernel
theorem dX7_isAhead_5 : decode cX7_isAhead 5 = .ok (.iaload, 1) := by decide +kernel
theorem dX7_isAhead_6 : decode cX7_isAhead 6 = .ok (.iconst 3, 1) := by decide +kernel
theorem dX7_isAhead_7 : decode cX7_isAhead 7 = .ok (.if_icmp .ne 7, 3) := by decide +kernel
theorem dX7_isAhead_10 : decode cX7_isAhead 10 = .ok (.iconst 1, 1) := by decide +kernel
theorem dX7_isAhead_11 : decode cX7_isAhead 11 = .ok (.goto 4, 3) := by decide +kernel
theorem dX7_isAhead_14 : decode cX7_isAhead 14 = .ok (.iconst 0, 1) := by decide +kernel
theorem dX7_isAhead_15 : decode cX7_isAhead 15 = .ok (.aload_n 0, 1) := by decide +kernel
theorem dX7_isAhead_16 : decode cX7_isAhead 16 = .ok (.getfield 31, 3) := by decide +kernel
theorem dX7_isAhead_19 : decode cX7_isAhead 19 = .ok (.iload_n 2, 1) := by decide +kernel
theorem dX7_isAhead_20 : decode cX7_isAhead 20 = .ok (.iaload, 1) := by decide +kernel
theorem dX7_isAhead_21 : decode cX7_isAhead 21 = .ok (.iconst 3, 1) := by decide +kernel
theorem dX7_isAhead_22 : decode cX7_isAhead 22 = .ok (.if_icmp .ne 7, 3) := by decide +kernel
theorem dX7_isAhead_25 : decode cX7_isAhead 25 = .ok (.iconst 1, 1) := by decide +kernel
theorem dX7_isAhead_26 : decode cX7_isAhead 26 = .ok (.goto 4, 3) := by decide +kernel
theorem dX7_isAhead_29 : decode cX7_isAhead 29 = .ok (.iconst 0, 1) := by decide +kernel
theorem dX7_isAhead_30 : decode cX7_isAhead 30 = .ok (.if_icmp .eq 19, 3) := by decide +kernel
theorem dX7_isAhead_33 : decode cX7_isAhead 33 = .ok (.aload_n 0, 1) := by decide +kernel
theorem dX7_isAhead_34 : decode cX7_isAhead 34 = .ok (.getfield 31, 3) := by decide +kernel
theorem dX7_isAhead_37 : decode cX7_isAhead 37 = .ok (.iload_n 2, 1) := by decide +kernel
theorem dX7_isAhead_38 : decode cX7_isAhead 38 = .ok (.iaload, 1) := by decide +kernel
theorem dX7_isAhead_39 : decode cX7_isAhead 39 = .ok (.iconst 3, 1) := by decide +kernel
theorem dX7_isAhead_40 : decode cX7_isAhead 40 = .ok (.if_icmp .ne 7, 3) := by decide +kernel
theorem dX7_isAhead_43 : decode cX7_isAhead 43 = .ok (.iconst 1, 1) := by decide +kernel
theorem dX7_isAhead_44 : decode cX7_isAhead 44 = .ok (.goto 4, 3) := by decide +kernel
theorem dX7_isAhead_47 : decode cX7_isAhead 47 = .ok (.iconst 0, 1) := by decide +kernel
theorem dX7_isAhead_48 : decode cX7_isAhead 48 = .ok (.ireturn, 1) := by decide +kernel
theorem dX7_isAhead_49 : decode cX7_isAhead 49 = .ok (.aload_n 0, 1) := by decide +kernel
theorem dX7_isAhead_50 : decode cX7_isAhead 50 = .ok (.getfield 198, 3) := by decide +kernel
theorem dX7_isAhead_53 : decode cX7_isAhead 53 = .ok (.ifCond .eq 39, 3) := by decide +kernel
theorem dX7_isAhead_56 : decode cX7_isAhead 56 = .ok (.aload_n 0, 1) := by decide +kernel
theorem dX7_isAhead_57 : decode cX7_isAhead 57 = .ok (.getfield 52, 3) := by decide +kernel
theorem dX7_isAhead_60 : decode cX7_isAhead 60 = .ok (.iload_n 1, 1) := by decide +kernel
theorem dX7_isAhead_61 : decode cX7_isAhead 61 = .ok (.iaload, 1) := by decide +kernel
theorem dX7_isAhead_62 : decode cX7_isAhead 62 = .ok (.aload_n 0, 1) := by decide +kernel
theorem dX7_isAhead_63 : decode cX7_isAhead 63 = .ok (.getfield 52, 3) := by decide +kernel
theorem dX7_isAhead_66 : decode cX7_isAhead 66 = .ok (.iload_n 2, 1) := by decide +kernel
theorem dX7_isAhead_67 : decode cX7_isAhead 67 = .ok (.iaload, 1) := by decide +kernel
theorem dX7_isAhead_68 : decode cX7_isAhead 68 = .ok (.if_icmp .eq 24, 3) := by decide +kernel
theorem dX7_isAhead_71 : decode cX7_isAhead 71 = .ok (.aload_n 0, 1) := by decide +kernel
theorem dX7_isAhead_72 : decode cX7_isAhead 72 = .ok (.getfield 52, 3) := by decide +kernel
theorem dX7_isAhead_75 : decode cX7_isAhead 75 = .ok (.iload_n 1, 1) := by decide +kernel
theorem dX7_isAhead_76 : decode cX7_isAhead 76 = .ok (.iaload, 1) := by decide +kernel
theorem dX7_isAhead_77 : decode cX7_isAhead 77 = .ok (.aload_n 0, 1) := by decide +kernel
theorem dX7_isAhead_78 : decode cX7_isAhead 78 = .ok (.getfield 52, 3) := by decide +kernel
theorem dX7_isAhead_81 : decode cX7_isAhead 81 = .ok (.iload_n 2, 1) := by decide +kernel
theorem dX7_isAhead_82 : decode cX7_isAhead 82 = .ok (.iaload, 1) := by decide +kernel
theorem dX7_isAhead_83 : decode cX7_isAhead 83 = .ok (.if_icmp .ge 7, 3) := by decide +kernel
theorem dX7_isAhead_86 : decode cX7_isAhead 86 = .ok (.iconst 1, 1) := by decide +kernel
theorem dX7_isAhead_87 : decode cX7_isAhead 87 = .ok (.goto 4, 3) := by decide +kernel
theorem dX7_isAhead_90 : decode cX7_isAhead 90 = .ok (.iconst 0, 1) := by decide +kernel
theorem dX7_isAhead_91 : decode cX7_isAhead 91 = .ok (.ireturn, 1) := by decide +kernel
theorem dX7_isAhead_92 : decode cX7_isAhead 92 = .ok (.aload_n 0, 1) := by decide +kernel
theorem dX7_isAhead_93 : decode cX7_isAhead 93 = .ok (.getfield 34, 3) := by decide +kernel
theorem dX7_isAhead_96 : decode cX7_isAhead 96 = .ok (.iload_n 1, 1) := by decide +kernel
theorem dX7_isAhead_97 : decode cX7_isAhead 97 = .ok (.iaload, 1) := by decide +kernel
theorem dX7_isAhead_98 : decode cX7_isAhead 98 = .ok (.aload_n 0, 1) := by decide +kernel
theorem dX7_isAhead_99 : decode cX7_isAhead 99 = .ok (.getfield 34, 3) := by decide +kernel
theorem dX7_isAhead_102 : decode cX7_isAhead 102 = .ok (.iload_n 2, 1) := by decide +kernel
theorem dX7_isAhead_103 : decode cX7_isAhead 103 = .ok (.iaload, 1) := by decide +kernel
theorem dX7_isAhead_104 : decode cX7_isAhead 104 = .ok (.if_icmp .ge 7, 3) := by decide +kernel
theorem dX7_isAhead_107 : decode cX7_isAhead 107 = .ok (.iconst 1, 1) := by decide +kernel
theorem dX7_isAhead_108 : decode cX7_isAhead 108 = .ok (.goto 4, 3) := by decide +kernel
theorem dX7_isAhead_111 : decode cX7_isAhead 111 = .ok (.iconst 0, 1) := by decide +kernel
theorem dX7_isAhead_112 : decode cX7_isAhead 112 = .ok (.ireturn, 1) := by decide +kernel
theorem dX7_goHour_0 : decode cX7_goHour 0 = .ok (.ldc 101, 2) := by decide +kernel
theorem dX7_goHour_2 : decode cX7_goHour 2 = .ok (.istore_n 2, 1) := by decide +kernel
theorem dX7_goHour_3 : decode cX7_goHour 3 = .ok (.iconst 0, 1) := by decide +kernel
theorem dX7_goHour_4 : decode cX7_goHour 4 = .ok (.istore_n 3, 1) := by decide +kernel
theorem dX7_goHour_5 : decode cX7_goHour 5 = .ok (.iconst 0, 1) := by decide +kernel
theorem dX7_goHour_6 : decode cX7_goHour 6 = .ok (.istore 4, 2) := by decide +kernel
theorem dX7_goHour_8 : decode cX7_goHour 8 = .ok (.iload 4, 2) := by decide +kernel
theorem dX7_goHour_10 : decode cX7_goHour 10 = .ok (.aload_n 0, 1) := by decide +kernel
theorem dX7_goHour_11 : decode cX7_goHour 11 = .ok (.getfield 195, 3) := by decide +kernel
theorem dX7_goHour_14 : decode cX7_goHour 14 = .ok (.if_icmp .ge 83, 3) := by decide +kernel
theorem dX7_goHour_17 : decode cX7_goHour 17 = .ok (.aload_n 0, 1) := by decide +kernel
theorem dX7_goHour_18 : decode cX7_goHour 18 = .ok (.iload 4, 2) := by decide +kernel
theorem dX7_goHour_20 : decode cX7_goHour 20 = .ok (.iload_n 1, 1) := by decide +kernel
theorem dX7_goHour_21 : decode cX7_goHour 21 = .ok (.invokevirtual 211, 3) := by decide +kernel
theorem dX7_goHour_24 : decode cX7_goHour 24 = .ok (.istore 5, 2) := by decide +kernel
theorem dX7_goHour_26 : decode cX7_goHour 26 = .ok (.iload 5, 2) := by decide +kernel
theorem dX7_goHour_28 : decode cX7_goHour 28 = .ok (.ifCond .eq 24, 3) := by decide +kernel
theorem dX7_goHour_31 : decode cX7_goHour 31 = .ok (.iload_n 2, 1) := by decide +kernel
theorem dX7_goHour_32 : decode cX7_goHour 32 = .ok (.ldc 101, 2) := by decide +kernel
theorem dX7_goHour_34 : decode cX7_goHour 34 = .ok (.if_icmp .eq 13, 3) := by decide +kernel
theorem dX7_goHour_37 : decode cX7_goHour 37 = .ok (.aload_n 0, 1) := by decide +kernel
theorem dX7_goHour_38 : decode cX7_goHour 38 = .ok (.iload 4, 2) := by decide +kernel
theorem dX7_goHour_40 : decode cX7_goHour 40 = .ok (.iload_n 2, 1) := by decide +kernel
theorem dX7_goHour_41 : decode cX7_goHour 41 = .ok (.invokevirtual 214, 3) := by decide +kernel
theorem dX7_goHour_44 : decode cX7_goHour 44 = .ok (.ifCond .eq 8, 3) := by decide +kernel
theorem dX7_goHour_47 : decode cX7_goHour 47 = .ok (.iload 4, 2) := by decide +kernel
theorem dX7_goHour_49 : decode cX7_goHour 49 = .ok (.goto 4, 3) := by decide +kernel
theorem dX7_goHour_52 : decode cX7_goHour 52 = .ok (.iload_n 2, 1) := by decide +kernel
theorem dX7_goHour_53 : decode cX7_goHour 53 = .ok (.istore_n 2, 1) := by decide +kernel
theorem dX7_goHour_54 : decode cX7_goHour 54 = .ok (.iload_n 3, 1) := by decide +kernel
theorem dX7_goHour_55 : decode cX7_goHour 55 = .ok (.iload 5, 2) := by decide +kernel
theorem dX7_goHour_57 : decode cX7_goHour 57 = .ok (.ifCond .ne 24, 3) := by decide +kernel
theorem dX7_goHour_60 : decode cX7_goHour 60 = .ok (.aload_n 0, 1) := by decide +kernel
theorem dX7_goHour_61 : decode cX7_goHour 61 = .ok (.iload 4, 2) := by decide +kernel
theorem dX7_goHour_63 : decode cX7_goHour 63 = .ok (.iload_n 1, 1) := by decide +kernel
theorem dX7_goHour_64 : decode cX7_goHour 64 = .ok (.invokevirtual 204, 3) := by decide +kernel
theorem dX7_goHour_67 : decode cX7_goHour 67 = .ok (.ifCond .eq 21, 3) := by decide +kernel
theorem dX7_goHour_70 : decode cX7_goHour 70 = .ok (.aload_n 0, 1) := by decide +kernel
theorem dX7_goHour_71 : decode cX7_goHour 71 = .ok (.getfield 31, 3) := by decide +kernel
theorem dX7_goHour_74 : decode cX7_goHour 74 = .ok (.iload 4, 2) := by decide +kernel
theorem dX7_goHour_76 : decode cX7_goHour 76 = .ok (.iaload, 1) := by decide +kernel
theorem dX7_goHour_77 : decode cX7_goHour 77 = .ok (.iconst 4, 1) := by decide +kernel
theorem dX7_goHour_78 : decode cX7_goHour 78 = .ok (.if_icmp .ge 10, 3) := by decide +kernel
theorem dX7_goHour_81 : decode cX7_goHour 81 = .ok (.iconst 1, 1) := by decide +kernel
theorem dX7_goHour_82 : decode cX7_goHour 82 = .ok (.iload 4, 2) := by decide +kernel
theorem dX7_goHour_84 : decode cX7_goHour 84 = .ok (.ishl, 1) := by decide +kernel
theorem dX7_goHour_85 : decode cX7_goHour 85 = .ok (.goto 4, 3) := by decide +kernel
theorem dX7_goHour_88 : decode cX7_goHour 88 = .ok (.iconst 0, 1) := by decide +kernel
theorem dX7_goHour_89 : decode cX7_goHour 89 = .ok (.ior, 1) := by decide +kernel
theorem dX7_goHour_90 : decode cX7_goHour 90 = .ok (.istore_n 3, 1) := by decide +kernel
theorem dX7_goHour_91 : decode cX7_goHour 91 = .ok (.iinc 4 1, 3) := by decide +kernel
theorem dX7_goHour_94 : decode cX7_goHour 94 = .ok (.goto (-86), 3) := by decide +kernel
theorem dX7_goHour_97 : decode cX7_goHour 97 = .ok (.aload_n 0, 1) := by decide +kernel
theorem dX7_goHour_98 : decode cX7_goHour 98 = .ok (.getfield 49, 3) := by decide +kernel
theorem dX7_goHour_101 : decode cX7_goHour 101 = .ok (.iload_n 1, 1) := by decide +kernel
theorem dX7_goHour_102 : decode cX7_goHour 102 = .ok (.iload_n 2, 1) := by decide +kernel
theorem dX7_goHour_103 : decode cX7_goHour 103 = .ok (.iastore, 1) := by decide +kernel
theorem dX7_goHour_104 : decode cX7_goHour 104 = .ok (.iload_n 2, 1) := by decide +kernel
theorem dX7_goHour_105 : decode cX7_goHour 105 = .ok (.ldc 101, 2) := by decide +kernel
theorem dX7_goHour_107 : decode cX7_goHour 107 = .ok (.if_icmp .ne 5, 3) := by decide +kernel
theorem dX7_goHour_110 : decode cX7_goHour 110 = .ok (.iconst 0, 1) := by decide +kernel
theorem dX7_goHour_111 : decode cX7_goHour 111 = .ok (.ireturn, 1) := by decide +kernel
theorem dX7_goHour_112 : decode cX7_goHour 112 = .ok (.iconst 0, 1) := by decide +kernel
theorem dX7_goHour_113 : decode cX7_goHour 113 = .ok (.istore 4, 2) := by decide +kernel
theorem dX7_goHour_115 : decode cX7_goHour 115 = .ok (.iconst 0, 1) := by decide +kernel
theorem dX7_goHour_116 : decode cX7_goHour 116 = .ok (.istore 5, 2) := by decide +kernel
theorem dX7_goHour_118 : decode cX7_goHour 118 = .ok (.iload 5, 2) := by decide +kernel
theorem dX7_goHour_120 : decode cX7_goHour 120 = .ok (.aload_n 0, 1) := by decide +kernel
theorem dX7_goHour_121 : decode cX7_goHour 121 = .ok (.getfield 195, 3) := by decide +kernel
theorem dX7_goHour_124 : decode cX7_goHour 124 = .ok (.if_icmp .ge 30, 3) := by decide +kernel
theorem dX7_goHour_127 : decode cX7_goHour 127 = .ok (.iload_n 3, 1) := by decide +kernel
theorem dX7_goHour_128 : decode cX7_goHour 128 = .ok (.iload 5, 2) := by decide +kernel
theorem dX7_goHour_130 : decode cX7_goHour 130 = .ok (.ishr, 1) := by decide +kernel
theorem dX7_goHour_131 : decode cX7_goHour 131 = .ok (.iconst 1, 1) := by decide +kernel
theorem dX7_goHour_132 : decode cX7_goHour 132 = .ok (.iand, 1) := by decide +kernel
theorem dX7_goHour_133 : decode cX7_goHour 133 = .ok (.iconst 1, 1) := by decide +kernel
theorem dX7_goHour_134 : decode cX7_goHour 134 = .ok (.if_icmp .ne 14, 3) := by decide +kernel
theorem dX7_goHour_137 : decode cX7_goHour 137 = .ok (.aload_n 0, 1) := by decide +kernel
theorem dX7_goHour_138 : decode cX7_goHour 138 = .ok (.getfield 43, 3) := by decide +kernel
theorem dX7_goHour_141 : decode cX7_goHour 141 = .ok (.iload 5, 2) := by decide +kernel
theorem dX7_goHour_143 : decode cX7_goHour 143 = .ok (.iload_n 1, 1) := by decide +kernel
theorem dX7_goHour_144 : decode cX7_goHour 144 = .ok (.iastore, 1) := by decide +kernel
theorem dX7_goHour_145 : decode cX7_goHour 145 = .ok (.iinc 4 1, 3) := by decide +kernel
theorem dX7_goHour_148 : decode cX7_goHour 148 = .ok (.iinc 5 1, 3) := by decide +kernel
theorem dX7_goHour_151 : decode cX7_goHour 151 = .ok (.goto (-33), 3) := by decide +kernel
theorem dX7_goHour_154 : decode cX7_goHour 154 = .ok (.aload_n 0, 1) := by decide +kernel
theorem dX7_goHour_155 : decode cX7_goHour 155 = .ok (.getfield 46, 3) := by decide +kernel
theorem dX7_goHour_158 : decode cX7_goHour 158 = .ok (.iload_n 2, 1) := by decide +kernel
theorem dX7_goHour_159 : decode cX7_goHour 159 = .ok (.aload_n 0, 1) := by decide +kernel
theorem dX7_goHour_160 : decode cX7_goHour 160 = .ok (.iload 4, 2) := by decide +kernel
theorem dX7_goHour_162 : decode cX7_goHour 162 = .ok (.invokevirtual 217, 3) := by decide +kernel
theorem dX7_goHour_165 : decode cX7_goHour 165 = .ok (.iastore, 1) := by decide +kernel
theorem dX7_goHour_166 : decode cX7_goHour 166 = .ok (.aload_n 0, 1) := by decide +kernel
theorem dX7_goHour_167 : decode cX7_goHour 167 = .ok (.getfield 52, 3) := by decide +kernel
theorem dX7_goHour_170 : decode cX7_goHour 170 = .ok (.iload_n 2, 1) := by decide +kernel
theorem dX7_goHour_171 : decode cX7_goHour 171 = .ok (.dup2, 1) := by decide +kernel
theorem dX7_goHour_172 : decode cX7_goHour 172 = .ok (.iaload, 1) := by decide +kernel
theorem dX7_goHour_173 : decode cX7_goHour 173 = .ok (.iconst 1, 1) := by decide +kernel
theorem dX7_goHour_174 : decode cX7_goHour 174 = .ok (.iadd, 1) := by decide +kernel
theorem dX7_goHour_175 : decode cX7_goHour 175 = .ok (.iastore, 1) := by decide +kernel
theorem dX7_goHour_176 : decode cX7_goHour 176 = .ok (.iload_n 3, 1) := by decide +kernel
theorem dX7_goHour_177 : decode cX7_goHour 177 = .ok (.ireturn, 1) := by decide +kernel
theorem dX7_goDay_0 : decode cX7_goDay 0 = .ok (.iconst 0, 1) := by decide +kernel
theorem dX7_goDay_1 : decode cX7_goDay 1 = .ok (.istore_n 1, 1) := by decide +kernel
theorem dX7_goDay_2 : decode cX7_goDay 2 = .ok (.iload_n 1, 1) := by decide +kernel
theorem dX7_goDay_3 : decode cX7_goDay 3 = .ok (.aload_n 0, 1) := by decide +kernel
theorem dX7_goDay_4 : decode cX7_goDay 4 = .ok (.getfield 195, 3) := by decide +kernel
theorem dX7_goDay_7 : decode cX7_goDay 7 = .ok (.if_icmp .ge 24, 3) := by decide +kernel
theorem dX7_goDay_10 : decode cX7_goDay 10 = .ok (.aload_n 0, 1) := by decide +kernel
theorem dX7_goDay_11 : decode cX7_goDay 11 = .ok (.getfield 43, 3) := by decide +kernel
theorem dX7_goDay_14 : decode cX7_goDay 14 = .ok (.iload_n 1, 1) := by decide +kernel
theorem dX7_goDay_15 : decode cX7_goDay 15 = .ok (.ldc 101, 2) := by decide +kernel
theorem dX7_goDay_17 : decode cX7_goDay 17 = .ok (.iastore, 1) := by decide +kernel
theorem dX7_goDay_18 : decode cX7_goDay 18 = .ok (.aload_n 0, 1) := by decide +kernel
theorem dX7_goDay_19 : decode cX7_goDay 19 = .ok (.getfield 46, 3) := by decide +kernel
theorem dX7_goDay_22 : decode cX7_goDay 22 = .ok (.iload_n 1, 1) := by decide +kernel
theorem dX7_goDay_23 : decode cX7_goDay 23 = .ok (.iconst 0, 1) := by decide +kernel
theorem dX7_goDay_24 : decode cX7_goDay 24 = .ok (.iastore, 1) := by decide +kernel
theorem dX7_goDay_25 : decode cX7_goDay 25 = .ok (.iinc 1 1, 3) := by decide +kernel
theorem dX7_goDay_28 : decode cX7_goDay 28 = .ok (.goto (-26), 3) := by decide +kernel
theorem dX7_goDay_31 : decode cX7_goDay 31 = .ok (.iconst 0, 1) := by decide +kernel
theorem dX7_goDay_32 : decode cX7_goDay 32 = .ok (.istore_n 1, 1) := by decide +kernel
theorem dX7_goDay_33 : decode cX7_goDay 33 = .ok (.iload_n 1, 1) := by decide +kernel
theorem dX7_goDay_34 : decode cX7_goDay 34 = .ok (.bipush 11, 2) := by decide +kernel
theorem dX7_goDay_36 : decode cX7_goDay 36 = .ok (.if_icmp .gt 15, 3) := by decide +kernel
theorem dX7_goDay_39 : decode cX7_goDay 39 = .ok (.aload_n 0, 1) := by decide +kernel
theorem dX7_goDay_40 : decode cX7_goDay 40 = .ok (.iload_n 1, 1) := by decide +kernel
theorem dX7_goDay_41 : decode cX7_goDay 41 = .ok (.invokevirtual 220, 3) := by decide +kernel
theorem dX7_goDay_44 : decode cX7_goDay 44 = .ok (.istore_n 2, 1) := by decide +kernel
theorem dX7_goDay_45 : decode cX7_goDay 45 = .ok (.iinc 1 1, 3) := by decide +kernel
theorem dX7_goDay_48 : decode cX7_goDay 48 = .ok (.goto (-15), 3) := by decide +kernel
theorem dX7_goDay_51 : decode cX7_goDay 51 = .ok (.return_, 1) := by decide +kernel
theorem dX7_costOf_0 : decode cX7_costOf 0 = .ok (.aload_n 0, 1) := by decide +kernel
theorem dX7_costOf_1 : decode cX7_costOf 1 = .ok (.getfield 37, 3) := by decide +kernel
theorem dX7_costOf_4 : decode cX7_costOf 4 = .ok (.iload_n 1, 1) := by decide +kernel
theorem dX7_costOf_5 : decode cX7_costOf 5 = .ok (.iaload, 1) := by decide +kernel
theorem dX7_costOf_6 : decode cX7_costOf 6 = .ok (.aload_n 0, 1) := by decide +kernel
theorem dX7_costOf_7 : decode cX7_costOf 7 = .ok (.getfield 43, 3) := by decide +kernel
theorem dX7_costOf_10 : decode cX7_costOf 10 = .ok (.iload_n 1, 1) := by decide +kernel
theorem dX7_costOf_11 : decode cX7_costOf 11 = .ok (.iaload, 1) := by decide +kernel
theorem dX7_costOf_12 : decode cX7_costOf 12 = .ok (.aload_n 0, 1) := by decide +kernel
theorem dX7_costOf_13 : decode cX7_costOf 13 = .ok (.getfield 34, 3) := by decide +kernel
theorem dX7_costOf_16 : decode cX7_costOf 16 = .ok (.iload_n 1, 1) := by decide +kernel
theorem dX7_costOf_17 : decode cX7_costOf 17 = .ok (.iaload, 1) := by decide +kernel
theorem dX7_costOf_18 : decode cX7_costOf 18 = .ok (.isub, 1) := by decide +kernel
theorem dX7_costOf_19 : decode cX7_costOf 19 = .ok (.imul, 1) := by decide +kernel
theorem dX7_costOf_20 : decode cX7_costOf 20 = .ok (.aload_n 0, 1) := by decide +kernel
theorem dX7_costOf_21 : decode cX7_costOf 21 = .ok (.getfield 46, 3) := by decide +kernel
theorem dX7_costOf_24 : decode cX7_costOf 24 = .ok (.iload_n 1, 1) := by decide +kernel
theorem dX7_costOf_25 : decode cX7_costOf 25 = .ok (.iaload, 1) := by decide +kernel
theorem dX7_costOf_26 : decode cX7_costOf 26 = .ok (.iadd, 1) := by decide +kernel
theorem dX7_costOf_27 : decode cX7_costOf 27 = .ok (.ireturn, 1) := by decide +kernel
theorem dX7_keep_0 : decode cX7_keep 0 = .ok (.aload_n 0, 1) := by decide +kernel
theorem dX7_keep_1 : decode cX7_keep 1 = .ok (.getfield 190, 3) := by decide +kernel
theorem dX7_keep_4 : decode cX7_keep 4 = .ok (.bipush 24, 2) := by decide +kernel
theorem dX7_keep_6 : decode cX7_keep 6 = .ok (.if_icmp .ne 43, 3) := by decide +kernel
theorem dX7_keep_9 : decode cX7_keep 9 = .ok (.iconst 0, 1) := by decide +kernel
theorem dX7_keep_10 : decode cX7_keep 10 = .ok (.istore_n 1, 1) := by decide +kernel
theorem dX7_keep_11 : decode cX7_keep 11 = .ok (.iload_n 1, 1) := by decide +kernel
theorem dX7_keep_12 : decode cX7_keep 12 = .ok (.sipush 1012, 3) := by decide +kernel
theorem dX7_keep_15 : decode cX7_keep 15 = .ok (.if_icmp .ge 24, 3) := by decide +kernel
theorem dX7_keep_18 : decode cX7_keep 18 = .ok (.aload_n 0, 1) := by decide +kernel
theorem dX7_keep_19 : decode cX7_keep 19 = .ok (.getfield 25, 3) := by decide +kernel
theorem dX7_keep_22 : decode cX7_keep 22 = .ok (.iload_n 1, 1) := by decide +kernel
theorem dX7_keep_23 : decode cX7_keep 23 = .ok (.aload_n 0, 1) := by decide +kernel
theorem dX7_keep_24 : decode cX7_keep 24 = .ok (.getfield 25, 3) := by decide +kernel
theorem dX7_keep_27 : decode cX7_keep 27 = .ok (.iload_n 1, 1) := by decide +kernel
theorem dX7_keep_28 : decode cX7_keep 28 = .ok (.bipush 44, 2) := by decide +kernel
theorem dX7_keep_30 : decode cX7_keep 30 = .ok (.iadd, 1) := by decide +kernel
theorem dX7_keep_31 : decode cX7_keep 31 = .ok (.iaload, 1) := by decide +kernel
theorem dX7_keep_32 : decode cX7_keep 32 = .ok (.iastore, 1) := by decide +kernel
theorem dX7_keep_33 : decode cX7_keep 33 = .ok (.iinc 1 1, 3) := by decide +kernel
theorem dX7_keep_36 : decode cX7_keep 36 = .ok (.goto (-25), 3) := by decide +kernel
theorem dX7_keep_39 : decode cX7_keep 39 = .ok (.aload_n 0, 1) := by decide +kernel
theorem dX7_keep_40 : decode cX7_keep 40 = .ok (.dup, 1) := by decide +kernel
theorem dX7_keep_41 : decode cX7_keep 41 = .ok (.getfield 190, 3) := by decide +kernel
theorem dX7_keep_44 : decode cX7_keep 44 = .ok (.iconst 1, 1) := by decide +kernel
theorem dX7_keep_45 : decode cX7_keep 45 = .ok (.isub, 1) := by decide +kernel
theorem dX7_keep_46 : decode cX7_keep 46 = .ok (.putfield 190, 3) := by decide +kernel
theorem dX7_keep_49 : decode cX7_keep 49 = .ok (.iconst 0, 1) := by decide +kernel
theorem dX7_keep_50 : decode cX7_keep 50 = .ok (.istore_n 1, 1) := by decide +kernel
theorem dX7_keep_51 : decode cX7_keep 51 = .ok (.iload_n 1, 1) := by decide +kernel
theorem dX7_keep_52 : decode cX7_keep 52 = .ok (.bipush 44, 2) := by decide +kernel
theorem dX7_keep_54 : decode cX7_keep 54 = .ok (.if_icmp .ge 29, 3) := by decide +kernel
theorem dX7_keep_57 : decode cX7_keep 57 = .ok (.aload_n 0, 1) := by decide +kernel
theorem dX7_keep_58 : decode cX7_keep 58 = .ok (.getfield 25, 3) := by decide +kernel
theorem dX7_keep_61 : decode cX7_keep 61 = .ok (.bipush 44, 2) := by decide +kernel
theorem dX7_keep_63 : decode cX7_keep 63 = .ok (.aload_n 0, 1) := by decide +kernel
theorem dX7_keep_64 : decode cX7_keep 64 = .ok (.getfield 190, 3) := by decide +kernel
theorem dX7_keep_67 : decode cX7_keep 67 = .ok (.imul, 1) := by decide +kernel
theorem dX7_keep_68 : decode cX7_keep 68 = .ok (.iload_n 1, 1) := by decide +kernel
theorem dX7_keep_69 : decode cX7_keep 69 = .ok (.iadd, 1) := by decide +kernel
theorem dX7_keep_70 : decode cX7_keep 70 = .ok (.aload_n 0, 1) := by decide +kernel
theorem dX7_keep_71 : decode cX7_keep 71 = .ok (.getfield 19, 3) := by decide +kernel
theorem dX7_keep_74 : decode cX7_keep 74 = .ok (.iload_n 1, 1) := by decide +kernel
theorem dX7_keep_75 : decode cX7_keep 75 = .ok (.iaload, 1) := by decide +kernel
theorem dX7_keep_76 : decode cX7_keep 76 = .ok (.iastore, 1) := by decide +kernel
theorem dX7_keep_77 : decode cX7_keep 77 = .ok (.iinc 1 1, 3) := by decide +kernel
theorem dX7_keep_80 : decode cX7_keep 80 = .ok (.goto (-29), 3) := by decide +kernel
theorem dX7_keep_83 : decode cX7_keep 83 = .ok (.aload_n 0, 1) := by decide +kernel
theorem dX7_keep_84 : decode cX7_keep 84 = .ok (.dup, 1) := by decide +kernel
theorem dX7_keep_85 : decode cX7_keep 85 = .ok (.getfield 190, 3) := by decide +kernel
theorem dX7_keep_88 : decode cX7_keep 88 = .ok (.iconst 1, 1) := by decide +kernel
theorem dX7_keep_89 : decode cX7_keep 89 = .ok (.iadd, 1) := by decide +kernel
theorem dX7_keep_90 : decode cX7_keep 90 = .ok (.putfield 190, 3) := by decide +kernel
theorem dX7_keep_93 : decode cX7_keep 93 = .ok (.return_, 1) := by decide +kernel
theorem dX7_hour_0 : decode cX7_hour 0 = .ok (.aload_n 0, 1) := by decide +kernel
theorem dX7_hour_1 : decode cX7_hour 1 = .ok (.iconst 0, 1) := by decide +kernel
theorem dX7_hour_2 : decode cX7_hour 2 = .ok (.putfield 65, 3) := by decide +kernel
theorem dX7_hour_5 : decode cX7_hour 5 = .ok (.aload_n 0, 1) := by decide +kernel
theorem dX7_hour_6 : decode cX7_hour 6 = .ok (.getfield 186, 3) := by decide +kernel
theorem dX7_hour_9 : decode cX7_hour 9 = .ok (.ifCond .ne 6, 3) := by decide +kernel
theorem dX7_hour_12 : decode cX7_hour 12 = .ok (.ldc 223, 2) := by decide +kernel
theorem dX7_hour_14 : decode cX7_hour 14 = .ok (.ireturn, 1) := by decide +kernel
theorem dX7_hour_15 : decode cX7_hour 15 = .ok (.aload_n 0, 1) := by decide +kernel
theorem dX7_hour_16 : decode cX7_hour 16 = .ok (.getfield 19, 3) := by decide +kernel
theorem dX7_hour_19 : decode cX7_hour 19 = .ok (.iconst 1, 1) := by decide +kernel
theorem dX7_hour_20 : decode cX7_hour 20 = .ok (.iaload, 1) := by decide +kernel
theorem dX7_hour_21 : decode cX7_hour 21 = .ok (.bipush 11, 2) := by decide +kernel
theorem dX7_hour_23 : decode cX7_hour 23 = .ok (.if_icmp .le 6, 3) := by decide +kernel
theorem dX7_hour_26 : decode cX7_hour 26 = .ok (.ldc 95, 2) := by decide +kernel
theorem dX7_hour_28 : decode cX7_hour 28 = .ok (.ireturn, 1) := by decide +kernel
theorem dX7_hour_29 : decode cX7_hour 29 = .ok (.aload_n 0, 1) := by decide +kernel
theorem dX7_hour_30 : decode cX7_hour 30 = .ok (.invokevirtual 224, 3) := by decide +kernel
theorem dX7_hour_33 : decode cX7_hour 33 = .ok (.aload_n 0, 1) := by decide +kernel
theorem dX7_hour_34 : decode cX7_hour 34 = .ok (.invokevirtual 227, 3) := by decide +kernel
theorem dX7_hour_37 : decode cX7_hour 37 = .ok (.aload_n 0, 1) := by decide +kernel
theorem dX7_hour_38 : decode cX7_hour 38 = .ok (.aload_n 0, 1) := by decide +kernel
theorem dX7_hour_39 : decode cX7_hour 39 = .ok (.getfield 19, 3) := by decide +kernel
theorem dX7_hour_42 : decode cX7_hour 42 = .ok (.iconst 1, 1) := by decide +kernel
theorem dX7_hour_43 : decode cX7_hour 43 = .ok (.iaload, 1) := by decide +kernel
theorem dX7_hour_44 : decode cX7_hour 44 = .ok (.invokevirtual 220, 3) := by decide +kernel
theorem dX7_hour_47 : decode cX7_hour 47 = .ok (.istore_n 1, 1) := by decide +kernel
theorem dX7_hour_48 : decode cX7_hour 48 = .ok (.iconst 0, 1) := by decide +kernel
theorem dX7_hour_49 : decode cX7_hour 49 = .ok (.istore_n 2, 1) := by decide +kernel
theorem dX7_hour_50 : decode cX7_hour 50 = .ok (.iload_n 2, 1) := by decide +kernel
theorem dX7_hour_51 : decode cX7_hour 51 = .ok (.aload_n 0, 1) := by decide +kernel
theorem dX7_hour_52 : decode cX7_hour 52 = .ok (.getfield 19, 3) := by decide +kernel
theorem dX7_hour_55 : decode cX7_hour 55 = .ok (.iconst 0, 1) := by decide +kernel
theorem dX7_hour_56 : decode cX7_hour 56 = .ok (.iaload, 1) := by decide +kernel
theorem dX7_hour_57 : decode cX7_hour 57 = .ok (.if_icmp .ge 49, 3) := by decide +kernel
theorem dX7_hour_60 : decode cX7_hour 60 = .ok (.aload_n 0, 1) := by decide +kernel
theorem dX7_hour_61 : decode cX7_hour 61 = .ok (.getfield 19, 3) := by decide +kernel
theorem dX7_hour_64 : decode cX7_hour 64 = .ok (.bipush 8, 2) := by decide +kernel
theorem dX7_hour_66 : decode cX7_hour 66 = .ok (.bipush 6, 2) := by decide +kernel
theorem dX7_hour_68 : decode cX7_hour 68 = .ok (.iload_n 2, 1) := by decide +kernel
theorem dX7_hour_69 : decode cX7_hour 69 = .ok (.imul, 1) := by decide +kernel
theorem dX7_hour_70 : decode cX7_hour 70 = .ok (.iadd, 1) := by decide +kernel
theorem dX7_hour_71 : decode cX7_hour 71 = .ok (.iconst 4, 1) := by decide +kernel
theorem dX7_hour_72 : decode cX7_hour 72 = .ok (.iadd, 1) := by decide +kernel
theorem dX7_hour_73 : decode cX7_hour 73 = .ok (.aload_n 0, 1) := by decide +kernel
theorem dX7_hour_74 : decode cX7_hour 74 = .ok (.getfield 43, 3) := by decide +kernel
theorem dX7_hour_77 : decode cX7_hour 77 = .ok (.iload_n 2, 1) := by decide +kernel
theorem dX7_hour_78 : decode cX7_hour 78 = .ok (.iaload, 1) := by decide +kernel
theorem dX7_hour_79 : decode cX7_hour 79 = .ok (.iastore, 1) := by decide +kernel
theorem dX7_hour_80 : decode cX7_hour 80 = .ok (.aload_n 0, 1) := by decide +kernel
theorem dX7_hour_81 : decode cX7_hour 81 = .ok (.getfield 19, 3) := by decide +kernel
theorem dX7_hour_84 : decode cX7_hour 84 = .ok (.bipush 8, 2) := by decide +kernel
theorem dX7_hour_86 : decode cX7_hour 86 = .ok (.bipush 6, 2) := by decide +kernel
theorem dX7_hour_88 : decode cX7_hour 88 = .ok (.iload_n 2, 1) := by decide +kernel
theorem dX7_hour_89 : decode cX7_hour 89 = .ok (.imul, 1) := by decide +kernel
theorem dX7_hour_90 : decode cX7_hour 90 = .ok (.iadd, 1) := by decide +kernel
theorem dX7_hour_91 : decode cX7_hour 91 = .ok (.iconst 5, 1) := by decide +kernel
theorem dX7_hour_92 : decode cX7_hour 92 = .ok (.iadd, 1) := by decide +kernel
theorem dX7_hour_93 : decode cX7_hour 93 = .ok (.aload_n 0, 1) := by decide +kernel
theorem dX7_hour_94 : decode cX7_hour 94 = .ok (.getfield 46, 3) := by decide +kernel
theorem dX7_hour_97 : decode cX7_hour 97 = .ok (.iload_n 2, 1) := by decide +kernel
theorem dX7_hour_98 : decode cX7_hour 98 = .ok (.iaload, 1) := by decide +kernel
theorem dX7_hour_99 : decode cX7_hour 99 = .ok (.iastore, 1) := by decide +kernel
theorem dX7_hour_100 : decode cX7_hour 100 = .ok (.iinc 2 1, 3) := by decide +kernel
theorem dX7_hour_103 : decode cX7_hour 103 = .ok (.goto (-53), 3) := by decide +kernel
theorem dX7_hour_106 : decode cX7_hour 106 = .ok (.aload_n 0, 1) := by decide +kernel
theorem dX7_hour_107 : decode cX7_hour 107 = .ok (.getfield 19, 3) := by decide +kernel
theorem dX7_hour_110 : decode cX7_hour 110 = .ok (.iconst 1, 1) := by decide +kernel
theorem dX7_hour_111 : decode cX7_hour 111 = .ok (.dup2, 1) := by decide +kernel
theorem dX7_hour_112 : decode cX7_hour 112 = .ok (.iaload, 1) := by decide +kernel
theorem dX7_hour_113 : decode cX7_hour 113 = .ok (.iconst 1, 1) := by decide +kernel
theorem dX7_hour_114 : decode cX7_hour 114 = .ok (.iadd, 1) := by decide +kernel
theorem dX7_hour_115 : decode cX7_hour 115 = .ok (.iastore, 1) := by decide +kernel
theorem dX7_hour_116 : decode cX7_hour 116 = .ok (.iload_n 1, 1) := by decide +kernel
theorem dX7_hour_117 : decode cX7_hour 117 = .ok (.ireturn, 1) := by decide +kernel
theorem dX7_waits_0 : decode cX7_waits 0 = .ok (.aload_n 0, 1) := by decide +kernel
theorem dX7_waits_1 : decode cX7_waits 1 = .ok (.iconst 0, 1) := by decide +kernel
theorem dX7_waits_2 : decode cX7_waits 2 = .ok (.putfield 65, 3) := by decide +kernel
theorem dX7_waits_5 : decode cX7_waits 5 = .ok (.aload_n 0, 1) := by decide +kernel
theorem dX7_waits_6 : decode cX7_waits 6 = .ok (.iload_n 1, 1) := by decide +kernel
theorem dX7_waits_7 : decode cX7_waits 7 = .ok (.invokevirtual 230, 3) := by decide +kernel
theorem dX7_waits_10 : decode cX7_waits 10 = .ok (.ifCond .eq 15, 3) := by decide +kernel
theorem dX7_waits_13 : decode cX7_waits 13 = .ok (.iload_n 2, 1) := by decide +kernel
theorem dX7_waits_14 : decode cX7_waits 14 = .ok (.i2l, 1) := by decide +kernel
theorem dX7_waits_15 : decode cX7_waits 15 = .ok (.lconst 0, 1) := by decide +kernel
theorem dX7_waits_16 : decode cX7_waits 16 = .ok (.ldc2_w 193, 3) := by decide +kernel
theorem dX7_waits_19 : decode cX7_waits 19 = .ok (.invokestatic 75, 3) := by decide +kernel
theorem dX7_waits_22 : decode cX7_waits 22 = .ok (.ifCond .ne 6, 3) := by decide +kernel
theorem dX7_waits_25 : decode cX7_waits 25 = .ok (.ldc 85, 2) := by decide +kernel
theorem dX7_waits_27 : decode cX7_waits 27 = .ok (.ireturn, 1) := by decide +kernel
theorem dX7_waits_28 : decode cX7_waits 28 = .ok (.aload_n 0, 1) := by decide +kernel
theorem dX7_waits_29 : decode cX7_waits 29 = .ok (.iload_n 1, 1) := by decide +kernel
theorem dX7_waits_30 : decode cX7_waits 30 = .ok (.iconst 4, 1) := by decide +kernel
theorem dX7_waits_31 : decode cX7_waits 31 = .ok (.invokevirtual 201, 3) := by decide +kernel
theorem dX7_waits_34 : decode cX7_waits 34 = .ok (.ldc 101, 2) := by decide +kernel
theorem dX7_waits_36 : decode cX7_waits 36 = .ok (.if_icmp .eq 6, 3) := by decide +kernel
theorem dX7_waits_39 : decode cX7_waits 39 = .ok (.ldc 223, 2) := by decide +kernel
theorem dX7_waits_41 : decode cX7_waits 41 = .ok (.ireturn, 1) := by decide +kernel
theorem dX7_waits_42 : decode cX7_waits 42 = .ok (.aload_n 0, 1) := by decide +kernel
theorem dX7_waits_43 : decode cX7_waits 43 = .ok (.invokevirtual 224, 3) := by decide +kernel
theorem dX7_waits_46 : decode cX7_waits 46 = .ok (.aload_n 0, 1) := by decide +kernel
theorem dX7_waits_47 : decode cX7_waits 47 = .ok (.iload_n 1, 1) := by decide +kernel
theorem dX7_waits_48 : decode cX7_waits 48 = .ok (.iconst 3, 1) := by decide +kernel
theorem dX7_waits_49 : decode cX7_waits 49 = .ok (.invokevirtual 201, 3) := by decide +kernel
theorem dX7_waits_52 : decode cX7_waits 52 = .ok (.istore_n 3, 1) := by decide +kernel
theorem dX7_waits_53 : decode cX7_waits 53 = .ok (.aload_n 0, 1) := by decide +kernel
theorem dX7_waits_54 : decode cX7_waits 54 = .ok (.getfield 19, 3) := by decide +kernel
theorem dX7_waits_57 : decode cX7_waits 57 = .ok (.bipush 8, 2) := by decide +kernel
theorem dX7_waits_59 : decode cX7_waits 59 = .ok (.bipush 6, 2) := by decide +kernel
theorem dX7_waits_61 : decode cX7_waits 61 = .ok (.iload_n 1, 1) := by decide +kernel
theorem dX7_waits_62 : decode cX7_waits 62 = .ok (.imul, 1) := by decide +kernel
theorem dX7_waits_63 : decode cX7_waits 63 = .ok (.iadd, 1) := by decide +kernel
theorem dX7_waits_64 : decode cX7_waits 64 = .ok (.iconst 3, 1) := by decide +kernel
theorem dX7_waits_65 : decode cX7_waits 65 = .ok (.iadd, 1) := by decide +kernel
theorem dX7_waits_66 : decode cX7_waits 66 = .ok (.iload_n 2, 1) := by decide +kernel
theorem dX7_waits_67 : decode cX7_waits 67 = .ok (.iastore, 1) := by decide +kernel
theorem dX7_waits_68 : decode cX7_waits 68 = .ok (.iload_n 3, 1) := by decide +kernel
theorem dX7_waits_69 : decode cX7_waits 69 = .ok (.ireturn, 1) := by decide +kernel
theorem dX7_undo_0 : decode cX7_undo 0 = .ok (.aload_n 0, 1) := by decide +kernel
theorem dX7_undo_1 : decode cX7_undo 1 = .ok (.iconst 0, 1) := by decide +kernel
theorem dX7_undo_2 : decode cX7_undo 2 = .ok (.putfield 65, 3) := by decide +kernel
theorem dX7_undo_5 : decode cX7_undo 5 = .ok (.aload_n 0, 1) := by decide +kernel
theorem dX7_undo_6 : decode cX7_undo 6 = .ok (.getfield 190, 3) := by decide +kernel
theorem dX7_undo_9 : decode cX7_undo 9 = .ok (.ifCond .ne 6, 3) := by decide +kernel
theorem dX7_undo_12 : decode cX7_undo 12 = .ok (.ldc 223, 2) := by decide +kernel
theorem dX7_undo_14 : decode cX7_undo 14 = .ok (.ireturn, 1) := by decide +kernel
theorem dX7_undo_15 : decode cX7_undo 15 = .ok (.aload_n 0, 1) := by decide +kernel
theorem dX7_undo_16 : decode cX7_undo 16 = .ok (.dup, 1) := by decide +kernel
theorem dX7_undo_17 : decode cX7_undo 17 = .ok (.getfield 190, 3) := by decide +kernel
theorem dX7_undo_20 : decode cX7_undo 20 = .ok (.iconst 1, 1) := by decide +kernel
theorem dX7_undo_21 : decode cX7_undo 21 = .ok (.isub, 1) := by decide +kernel
theorem dX7_undo_22 : decode cX7_undo 22 = .ok (.putfield 190, 3) := by decide +kernel
theorem dX7_undo_25 : decode cX7_undo 25 = .ok (.iconst 0, 1) := by decide +kernel
theorem dX7_undo_26 : decode cX7_undo 26 = .ok (.istore_n 1, 1) := by decide +kernel
theorem dX7_undo_27 : decode cX7_undo 27 = .ok (.iload_n 1, 1) := by decide +kernel
theorem dX7_undo_28 : decode cX7_undo 28 = .ok (.bipush 44, 2) := by decide +kernel
theorem dX7_undo_30 : decode cX7_undo 30 = .ok (.if_icmp .ge 29, 3) := by decide +kernel
theorem dX7_undo_33 : decode cX7_undo 33 = .ok (.aload_n 0, 1) := by decide +kernel
theorem dX7_undo_34 : decode cX7_undo 34 = .ok (.getfield 19, 3) := by decide +kernel
theorem dX7_undo_37 : decode cX7_undo 37 = .ok (.iload_n 1, 1) := by decide +kernel
theorem dX7_undo_38 : decode cX7_undo 38 = .ok (.aload_n 0, 1) := by decide +kernel
theorem dX7_undo_39 : decode cX7_undo 39 = .ok (.getfield 25, 3) := by decide +kernel
theorem dX7_undo_42 : decode cX7_undo 42 = .ok (.bipush 44, 2) := by decide +kernel
theorem dX7_undo_44 : decode cX7_undo 44 = .ok (.aload_n 0, 1) := by decide +kernel
theorem dX7_undo_45 : decode cX7_undo 45 = .ok (.getfield 190, 3) := by decide +kernel
theorem dX7_undo_48 : decode cX7_undo 48 = .ok (.imul, 1) := by decide +kernel
theorem dX7_undo_49 : decode cX7_undo 49 = .ok (.iload_n 1, 1) := by decide +kernel
theorem dX7_undo_50 : decode cX7_undo 50 = .ok (.iadd, 1) := by decide +kernel
theorem dX7_undo_51 : decode cX7_undo 51 = .ok (.iaload, 1) := by decide +kernel
theorem dX7_undo_52 : decode cX7_undo 52 = .ok (.iastore, 1) := by decide +kernel
theorem dX7_undo_53 : decode cX7_undo 53 = .ok (.iinc 1 1, 3) := by decide +kernel
theorem dX7_undo_56 : decode cX7_undo 56 = .ok (.goto (-29), 3) := by decide +kernel
theorem dX7_undo_59 : decode cX7_undo 59 = .ok (.aload_n 0, 1) := by decide +kernel
theorem dX7_undo_60 : decode cX7_undo 60 = .ok (.getfield 190, 3) := by decide +kernel
theorem dX7_undo_63 : decode cX7_undo 63 = .ok (.ireturn, 1) := by decide +kernel
theorem dX7_cart_0 : decode cX7_cart 0 = .ok (.aload_n 0, 1) := by decide +kernel
theorem dX7_cart_1 : decode cX7_cart 1 = .ok (.iconst 0, 1) := by decide +kernel
theorem dX7_cart_2 : decode cX7_cart 2 = .ok (.putfield 65, 3) := by decide +kernel
theorem dX7_cart_5 : decode cX7_cart 5 = .ok (.aload_n 0, 1) := by decide +kernel
theorem dX7_cart_6 : decode cX7_cart 6 = .ok (.iload_n 1, 1) := by decide +kernel
theorem dX7_cart_7 : decode cX7_cart 7 = .ok (.invokevirtual 230, 3) := by decide +kernel
theorem dX7_cart_10 : decode cX7_cart 10 = .ok (.ifCond .eq 15, 3) := by decide +kernel
theorem dX7_cart_13 : decode cX7_cart 13 = .ok (.iload_n 2, 1) := by decide +kernel
theorem dX7_cart_14 : decode cX7_cart 14 = .ok (.i2l, 1) := by decide +kernel
theorem dX7_cart_15 : decode cX7_cart 15 = .ok (.lconst 0, 1) := by decide +kernel
theorem dX7_cart_16 : decode cX7_cart 16 = .ok (.ldc2_w 233, 3) := by decide +kernel
theorem dX7_cart_19 : decode cX7_cart 19 = .ok (.invokestatic 75, 3) := by decide +kernel
theorem dX7_cart_22 : decode cX7_cart 22 = .ok (.ifCond .ne 6, 3) := by decide +kernel
theorem dX7_cart_25 : decode cX7_cart 25 = .ok (.ldc 85, 2) := by decide +kernel
theorem dX7_cart_27 : decode cX7_cart 27 = .ok (.ireturn, 1) := by decide +kernel
theorem dX7_cart_28 : decode cX7_cart 28 = .ok (.aload_n 0, 1) := by decide +kernel
theorem dX7_cart_29 : decode cX7_cart 29 = .ok (.invokevirtual 227, 3) := by decide +kernel
theorem dX7_cart_32 : decode cX7_cart 32 = .ok (.iload_n 2, 1) := by decide +kernel
theorem dX7_cart_33 : decode cX7_cart 33 = .ok (.iconst 5, 1) := by decide +kernel
theorem dX7_cart_34 : decode cX7_cart 34 = .ok (.if_icmp .ge 14, 3) := by decide +kernel
theorem dX7_cart_37 : decode cX7_cart 37 = .ok (.aload_n 0, 1) := by decide +kernel
theorem dX7_cart_38 : decode cX7_cart 38 = .ok (.iload_n 1, 1) := by decide +kernel
theorem dX7_cart_39 : decode cX7_cart 39 = .ok (.iconst 1, 1) := by decide +kernel
theorem dX7_cart_40 : decode cX7_cart 40 = .ok (.iload_n 2, 1) := by decide +kernel
theorem dX7_cart_41 : decode cX7_cart 41 = .ok (.iadd, 1) := by decide +kernel
theorem dX7_cart_42 : decode cX7_cart 42 = .ok (.invokevirtual 201, 3) := by decide +kernel
theorem dX7_cart_45 : decode cX7_cart 45 = .ok (.goto 24, 3) := by decide +kernel
theorem dX7_cart_48 : decode cX7_cart 48 = .ok (.aload_n 0, 1) := by decide +kernel
theorem dX7_cart_49 : decode cX7_cart 49 = .ok (.getfield 43, 3) := by decide +kernel
theorem dX7_cart_52 : decode cX7_cart 52 = .ok (.iload_n 1, 1) := by decide +kernel
theorem dX7_cart_53 : decode cX7_cart 53 = .ok (.iaload, 1) := by decide +kernel
theorem dX7_cart_54 : decode cX7_cart 54 = .ok (.ldc 101, 2) := by decide +kernel
theorem dX7_cart_56 : decode cX7_cart 56 = .ok (.if_icmp .ne 8, 3) := by decide +kernel
theorem dX7_cart_59 : decode cX7_cart 59 = .ok (.ldc 101, 2) := by decide +kernel
theorem dX7_cart_61 : decode cX7_cart 61 = .ok (.goto 8, 3) := by decide +kernel
theorem dX7_cart_64 : decode cX7_cart 64 = .ok (.aload_n 0, 1) := by decide +kernel
theorem dX7_cart_65 : decode cX7_cart 65 = .ok (.iload_n 1, 1) := by decide +kernel
theorem dX7_cart_66 : decode cX7_cart 66 = .ok (.invokevirtual 235, 3) := by decide +kernel
theorem dX7_cart_69 : decode cX7_cart 69 = .ok (.ireturn, 1) := by decide +kernel
theorem dX7_day_0 : decode cX7_day 0 = .ok (.aload_n 0, 1) := by decide +kernel
theorem dX7_day_1 : decode cX7_day 1 = .ok (.iconst 0, 1) := by decide +kernel
theorem dX7_day_2 : decode cX7_day 2 = .ok (.putfield 65, 3) := by decide +kernel
theorem dX7_day_5 : decode cX7_day 5 = .ok (.aload_n 0, 1) := by decide +kernel
theorem dX7_day_6 : decode cX7_day 6 = .ok (.iload_n 1, 1) := by decide +kernel
theorem dX7_day_7 : decode cX7_day 7 = .ok (.invokevirtual 230, 3) := by decide +kernel
theorem dX7_day_10 : decode cX7_day 10 = .ok (.ifCond .eq 15, 3) := by decide +kernel
theorem dX7_day_13 : decode cX7_day 13 = .ok (.iload_n 2, 1) := by decide +kernel
theorem dX7_day_14 : decode cX7_day 14 = .ok (.i2l, 1) := by decide +kernel
theorem dX7_day_15 : decode cX7_day 15 = .ok (.lconst 0, 1) := by decide +kernel
theorem dX7_day_16 : decode cX7_day 16 = .ok (.ldc2_w 83, 3) := by decide +kernel
theorem dX7_day_19 : decode cX7_day 19 = .ok (.invokestatic 75, 3) := by decide +kernel
theorem dX7_day_22 : decode cX7_day 22 = .ok (.ifCond .ne 6, 3) := by decide +kernel
theorem dX7_day_25 : decode cX7_day 25 = .ok (.ldc 85, 2) := by decide +kernel
theorem dX7_day_27 : decode cX7_day 27 = .ok (.ireturn, 1) := by decide +kernel
theorem dX7_day_28 : decode cX7_day 28 = .ok (.aload_n 0, 1) := by decide +kernel
theorem dX7_day_29 : decode cX7_day 29 = .ok (.invokevirtual 227, 3) := by decide +kernel
theorem dX7_day_32 : decode cX7_day 32 = .ok (.aload_n 0, 1) := by decide +kernel
theorem dX7_day_33 : decode cX7_day 33 = .ok (.invokevirtual 238, 3) := by decide +kernel
theorem dX7_day_36 : decode cX7_day 36 = .ok (.iload_n 2, 1) := by decide +kernel
theorem dX7_day_37 : decode cX7_day 37 = .ok (.ifCond .ne 12, 3) := by decide +kernel
theorem dX7_day_40 : decode cX7_day 40 = .ok (.aload_n 0, 1) := by decide +kernel
theorem dX7_day_41 : decode cX7_day 41 = .ok (.getfield 43, 3) := by decide +kernel
theorem dX7_day_44 : decode cX7_day 44 = .ok (.iload_n 1, 1) := by decide +kernel
theorem dX7_day_45 : decode cX7_day 45 = .ok (.iaload, 1) := by decide +kernel
theorem dX7_day_46 : decode cX7_day 46 = .ok (.goto 22, 3) := by decide +kernel
theorem dX7_day_49 : decode cX7_day 49 = .ok (.iload_n 2, 1) := by decide +kernel
theorem dX7_day_50 : decode cX7_day 50 = .ok (.iconst 1, 1) := by decide +kernel
theorem dX7_day_51 : decode cX7_day 51 = .ok (.if_icmp .ne 11, 3) := by decide +kernel
theorem dX7_day_54 : decode cX7_day 54 = .ok (.aload_n 0, 1) := by decide +kernel
theorem dX7_day_55 : decode cX7_day 55 = .ok (.iload_n 1, 1) := by decide +kernel
theorem dX7_day_56 : decode cX7_day 56 = .ok (.invokevirtual 235, 3) := by decide +kernel
theorem dX7_day_59 : decode cX7_day 59 = .ok (.goto 9, 3) := by decide +kernel
theorem dX7_day_62 : decode cX7_day 62 = .ok (.aload_n 0, 1) := by decide +kernel
theorem dX7_day_63 : decode cX7_day 63 = .ok (.getfield 46, 3) := by decide +kernel
theorem dX7_day_66 : decode cX7_day 66 = .ok (.iload_n 1, 1) := by decide +kernel
theorem dX7_day_67 : decode cX7_day 67 = .ok (.iaload, 1) := by decide +kernel
theorem dX7_day_68 : decode cX7_day 68 = .ok (.ireturn, 1) := by decide +kernel
theorem dX7_judge_0 : decode cX7_judge 0 = .ok (.aload_n 0, 1) := by decide +kernel
theorem dX7_judge_1 : decode cX7_judge 1 = .ok (.iconst 0, 1) := by decide +kernel
theorem dX7_judge_2 : decode cX7_judge 2 = .ok (.putfield 65, 3) := by decide +kernel
theorem dX7_judge_5 : decode cX7_judge 5 = .ok (.aload_n 0, 1) := by decide +kernel
theorem dX7_judge_6 : decode cX7_judge 6 = .ok (.getfield 186, 3) := by decide +kernel
theorem dX7_judge_9 : decode cX7_judge 9 = .ok (.ifCond .ne 6, 3) := by decide +kernel
theorem dX7_judge_12 : decode cX7_judge 12 = .ok (.ldc 223, 2) := by decide +kernel
theorem dX7_judge_14 : decode cX7_judge 14 = .ok (.ireturn, 1) := by decide +kernel
theorem dX7_judge_15 : decode cX7_judge 15 = .ok (.iload_n 1, 1) := by decide +kernel
theorem dX7_judge_16 : decode cX7_judge 16 = .ok (.invokestatic 79, 3) := by decide +kernel
theorem dX7_judge_19 : decode cX7_judge 19 = .ok (.ifCond .ne 6, 3) := by decide +kernel
theorem dX7_judge_22 : decode cX7_judge 22 = .ok (.ldc 85, 2) := by decide +kernel
theorem dX7_judge_24 : decode cX7_judge 24 = .ok (.ireturn, 1) := by decide +kernel
theorem dX7_judge_25 : decode cX7_judge 25 = .ok (.aload_n 0, 1) := by decide +kernel
theorem dX7_judge_26 : decode cX7_judge 26 = .ok (.getfield 7, 3) := by decide +kernel
theorem dX7_judge_29 : decode cX7_judge 29 = .ok (.iload_n 1, 1) := by decide +kernel
theorem dX7_judge_30 : decode cX7_judge 30 = .ok (.iaload, 1) := by decide +kernel
theorem dX7_judge_31 : decode cX7_judge 31 = .ok (.ifCond .ge 9, 3) := by decide +kernel
theorem dX7_judge_34 : decode cX7_judge 34 = .ok (.aload_n 0, 1) := by decide +kernel
theorem dX7_judge_35 : decode cX7_judge 35 = .ok (.iconst 1, 1) := by decide +kernel
theorem dX7_judge_36 : decode cX7_judge 36 = .ok (.invokevirtual 86, 3) := by decide +kernel
theorem dX7_judge_39 : decode cX7_judge 39 = .ok (.ireturn, 1) := by decide +kernel
theorem dX7_judge_40 : decode cX7_judge 40 = .ok (.iload_n 2, 1) := by decide +kernel
theorem dX7_judge_41 : decode cX7_judge 41 = .ok (.ifCond .lt 20, 3) := by decide +kernel
theorem dX7_judge_44 : decode cX7_judge 44 = .ok (.iload_n 2, 1) := by decide +kernel
theorem dX7_judge_45 : decode cX7_judge 45 = .ok (.i2l, 1) := by decide +kernel
theorem dX7_judge_46 : decode cX7_judge 46 = .ok (.ldc2_w 241, 3) := by decide +kernel
theorem dX7_judge_49 : decode cX7_judge 49 = .ok (.ladd, 1) := by decide +kernel
theorem dX7_judge_50 : decode cX7_judge 50 = .ok (.aload_n 0, 1) := by decide +kernel
theorem dX7_judge_51 : decode cX7_judge 51 = .ok (.getfield 13, 3) := by decide +kernel
theorem dX7_judge_54 : decode cX7_judge 54 = .ok (.iload_n 1, 1) := by decide +kernel
theorem dX7_judge_55 : decode cX7_judge 55 = .ok (.iaload, 1) := by decide +kernel
theorem dX7_judge_56 : decode cX7_judge 56 = .ok (.i2l, 1) := by decide +kernel
theorem dX7_judge_57 : decode cX7_judge 57 = .ok (.lcmp, 1) := by decide +kernel
theorem dX7_judge_58 : decode cX7_judge 58 = .ok (.ifCond .le 9, 3) := by decide +kernel
theorem dX7_judge_61 : decode cX7_judge 61 = .ok (.aload_n 0, 1) := by decide +kernel
theorem dX7_judge_62 : decode cX7_judge 62 = .ok (.iconst 2, 1) := by decide +kernel
theorem dX7_judge_63 : decode cX7_judge 63 = .ok (.invokevirtual 86, 3) := by decide +kernel
theorem dX7_judge_66 : decode cX7_judge 66 = .ok (.ireturn, 1) := by decide +kernel
theorem dX7_judge_67 : decode cX7_judge 67 = .ok (.iconst 0, 1) := by decide +kernel
theorem dX7_judge_68 : decode cX7_judge 68 = .ok (.istore_n 3, 1) := by decide +kernel
theorem dX7_judge_69 : decode cX7_judge 69 = .ok (.iload_n 3, 1) := by decide +kernel
theorem dX7_judge_70 : decode cX7_judge 70 = .ok (.bipush 11, 2) := by decide +kernel
theorem dX7_judge_72 : decode cX7_judge 72 = .ok (.if_icmp .gt 44, 3) := by decide +kernel
theorem dX7_judge_75 : decode cX7_judge 75 = .ok (.aload_n 0, 1) := by decide +kernel
theorem dX7_judge_76 : decode cX7_judge 76 = .ok (.getfield 16, 3) := by decide +kernel
theorem dX7_judge_79 : decode cX7_judge 79 = .ok (.bipush 40, 2) := by decide +kernel
theorem dX7_judge_81 : decode cX7_judge 81 = .ok (.iload_n 1, 1) := by decide +kernel
theorem dX7_judge_82 : decode cX7_judge 82 = .ok (.imul, 1) := by decide +kernel
theorem dX7_judge_83 : decode cX7_judge 83 = .ok (.iload_n 2, 1) := by decide +kernel
theorem dX7_judge_84 : decode cX7_judge 84 = .ok (.iadd, 1) := by decide +kernel
theorem dX7_judge_85 : decode cX7_judge 85 = .ok (.iload_n 3, 1) := by decide +kernel
theorem dX7_judge_86 : decode cX7_judge 86 = .ok (.iadd, 1) := by decide +kernel
theorem dX7_judge_87 : decode cX7_judge 87 = .ok (.iaload, 1) := by decide +kernel
theorem dX7_judge_88 : decode cX7_judge 88 = .ok (.i2l, 1) := by decide +kernel
theorem dX7_judge_89 : decode cX7_judge 89 = .ok (.ldc2_w 243, 3) := by decide +kernel
theorem dX7_judge_92 : decode cX7_judge 92 = .ok (.aload_n 0, 1) := by decide +kernel
theorem dX7_judge_93 : decode cX7_judge 93 = .ok (.getfield 19, 3) := by decide +kernel
theorem dX7_judge_96 : decode cX7_judge 96 = .ok (.iconst 0, 1) := by decide +kernel
theorem dX7_judge_97 : decode cX7_judge 97 = .ok (.iaload, 1) := by decide +kernel
theorem dX7_judge_98 : decode cX7_judge 98 = .ok (.iconst 1, 1) := by decide +kernel
theorem dX7_judge_99 : decode cX7_judge 99 = .ok (.isub, 1) := by decide +kernel
theorem dX7_judge_100 : decode cX7_judge 100 = .ok (.i2l, 1) := by decide +kernel
theorem dX7_judge_101 : decode cX7_judge 101 = .ok (.invokestatic 75, 3) := by decide +kernel
theorem dX7_judge_104 : decode cX7_judge 104 = .ok (.ifCond .ne 6, 3) := by decide +kernel
theorem dX7_judge_107 : decode cX7_judge 107 = .ok (.ldc 85, 2) := by decide +kernel
theorem dX7_judge_109 : decode cX7_judge 109 = .ok (.ireturn, 1) := by decide +kernel
theorem dX7_judge_110 : decode cX7_judge 110 = .ok (.iinc 3 1, 3) := by decide +kernel
theorem dX7_judge_113 : decode cX7_judge 113 = .ok (.goto (-44), 3) := by decide +kernel
theorem dX7_judge_116 : decode cX7_judge 116 = .ok (.aload_n 0, 1) := by decide +kernel
theorem dX7_judge_117 : decode cX7_judge 117 = .ok (.iconst 0, 1) := by decide +kernel
theorem dX7_judge_118 : decode cX7_judge 118 = .ok (.putfield 69, 3) := by decide +kernel
theorem dX7_judge_121 : decode cX7_judge 121 = .ok (.aload_n 0, 1) := by decide +kernel
theorem dX7_judge_122 : decode cX7_judge 122 = .ok (.invokevirtual 227, 3) := by decide +kernel
theorem dX7_judge_125 : decode cX7_judge 125 = .ok (.aload_n 0, 1) := by decide +kernel
theorem dX7_judge_126 : decode cX7_judge 126 = .ok (.invokevirtual 238, 3) := by decide +kernel
theorem dX7_judge_129 : decode cX7_judge 129 = .ok (.iconst 0, 1) := by decide +kernel
theorem dX7_judge_130 : decode cX7_judge 130 = .ok (.istore_n 3, 1) := by decide +kernel
theorem dX7_judge_131 : decode cX7_judge 131 = .ok (.iload_n 3, 1) := by decide +kernel
theorem dX7_judge_132 : decode cX7_judge 132 = .ok (.bipush 11, 2) := by decide +kernel
theorem dX7_judge_134 : decode cX7_judge 134 = .ok (.if_icmp .gt 56, 3) := by decide +kernel
theorem dX7_judge_137 : decode cX7_judge 137 = .ok (.aload_n 0, 1) := by decide +kernel
theorem dX7_judge_138 : decode cX7_judge 138 = .ok (.getfield 16, 3) := by decide +kernel
theorem dX7_judge_141 : decode cX7_judge 141 = .ok (.bipush 40, 2) := by decide +kernel
theorem dX7_judge_143 : decode cX7_judge 143 = .ok (.iload_n 1, 1) := by decide +kernel
theorem dX7_judge_144 : decode cX7_judge 144 = .ok (.imul, 1) := by decide +kernel
theorem dX7_judge_145 : decode cX7_judge 145 = .ok (.iload_n 2, 1) := by decide +kernel
theorem dX7_judge_146 : decode cX7_judge 146 = .ok (.iadd, 1) := by decide +kernel
theorem dX7_judge_147 : decode cX7_judge 147 = .ok (.iload_n 3, 1) := by decide +kernel
theorem dX7_judge_148 : decode cX7_judge 148 = .ok (.iadd, 1) := by decide +kernel
theorem dX7_judge_149 : decode cX7_judge 149 = .ok (.iaload, 1) := by decide +kernel
theorem dX7_judge_150 : decode cX7_judge 150 = .ok (.istore 4, 2) := by decide +kernel
theorem dX7_judge_152 : decode cX7_judge 152 = .ok (.iload 4, 2) := by decide +kernel
theorem dX7_judge_154 : decode cX7_judge 154 = .ok (.ifCond .ge 17, 3) := by decide +kernel
theorem dX7_judge_157 : decode cX7_judge 157 = .ok (.aload_n 0, 1) := by decide +kernel
theorem dX7_judge_158 : decode cX7_judge 158 = .ok (.getfield 49, 3) := by decide +kernel
theorem dX7_judge_161 : decode cX7_judge 161 = .ok (.iload_n 3, 1) := by decide +kernel
theorem dX7_judge_162 : decode cX7_judge 162 = .ok (.iaload, 1) := by decide +kernel
theorem dX7_judge_163 : decode cX7_judge 163 = .ok (.ldc 101, 2) := by decide +kernel
theorem dX7_judge_165 : decode cX7_judge 165 = .ok (.if_icmp .eq 19, 3) := by decide +kernel
theorem dX7_judge_168 : decode cX7_judge 168 = .ok (.goto 14, 3) := by decide +kernel
theorem dX7_judge_171 : decode cX7_judge 171 = .ok (.aload_n 0, 1) := by decide +kernel
theorem dX7_judge_172 : decode cX7_judge 172 = .ok (.getfield 49, 3) := by decide +kernel
theorem dX7_judge_175 : decode cX7_judge 175 = .ok (.iload_n 3, 1) := by decide +kernel
theorem dX7_judge_176 : decode cX7_judge 176 = .ok (.iaload, 1) := by decide +kernel
theorem dX7_judge_177 : decode cX7_judge 177 = .ok (.iload 4, 2) := by decide +kernel
theorem dX7_judge_179 : decode cX7_judge 179 = .ok (.if_icmp .eq 5, 3) := by decide +kernel
theorem dX7_judge_182 : decode cX7_judge 182 = .ok (.iload_n 3, 1) := by decide +kernel
theorem dX7_judge_183 : decode cX7_judge 183 = .ok (.ireturn, 1) := by decide +kernel
theorem dX7_judge_184 : decode cX7_judge 184 = .ok (.iinc 3 1, 3) := by decide +kernel
theorem dX7_judge_187 : decode cX7_judge 187 = .ok (.goto (-56), 3) := by decide +kernel
theorem dX7_judge_190 : decode cX7_judge 190 = .ok (.ldc 101, 2) := by decide +kernel
theorem dX7_judge_192 : decode cX7_judge 192 = .ok (.ireturn, 1) := by decide +kernel
theorem dX7_bestOf_0 : decode cX7_bestOf 0 = .ok (.aload_n 0, 1) := by decide +kernel
theorem dX7_bestOf_1 : decode cX7_bestOf 1 = .ok (.getfield 40, 3) := by decide +kernel
theorem dX7_bestOf_4 : decode cX7_bestOf 4 = .ok (.iload_n 1, 1) := by decide +kernel
theorem dX7_bestOf_5 : decode cX7_bestOf 5 = .ok (.iaload, 1) := by decide +kernel
theorem dX7_bestOf_6 : decode cX7_bestOf 6 = .ok (.istore_n 2, 1) := by decide +kernel
theorem dX7_bestOf_7 : decode cX7_bestOf 7 = .ok (.iconst 0, 1) := by decide +kernel
theorem dX7_bestOf_8 : decode cX7_bestOf 8 = .ok (.istore_n 3, 1) := by decide +kernel
theorem dX7_bestOf_9 : decode cX7_bestOf 9 = .ok (.iconst 0, 1) := by decide +kernel
theorem dX7_bestOf_10 : decode cX7_bestOf 10 = .ok (.istore 4, 2) := by decide +kernel
theorem dX7_bestOf_12 : decode cX7_bestOf 12 = .ok (.iload 4, 2) := by decide +kernel
theorem dX7_bestOf_14 : decode cX7_bestOf 14 = .ok (.bipush 11, 2) := by decide +kernel
theorem dX7_bestOf_16 : decode cX7_bestOf 16 = .ok (.if_icmp .gt 76, 3) := by decide +kernel
theorem dX7_bestOf_19 : decode cX7_bestOf 19 = .ok (.aload_n 0, 1) := by decide +kernel
theorem dX7_bestOf_20 : decode cX7_bestOf 20 = .ok (.getfield 40, 3) := by decide +kernel
theorem dX7_bestOf_23 : decode cX7_bestOf 23 = .ok (.iload_n 1, 1) := by decide +kernel
theorem dX7_bestOf_24 : decode cX7_bestOf 24 = .ok (.iload 4, 2) := by decide +kernel
theorem dX7_bestOf_26 : decode cX7_bestOf 26 = .ok (.iastore, 1) := by decide +kernel
theorem dX7_bestOf_27 : decode cX7_bestOf 27 = .ok (.aload_n 0, 1) := by decide +kernel
theorem dX7_bestOf_28 : decode cX7_bestOf 28 = .ok (.invokevirtual 238, 3) := by decide +kernel
theorem dX7_bestOf_31 : decode cX7_bestOf 31 = .ok (.aload_n 0, 1) := by decide +kernel
theorem dX7_bestOf_32 : decode cX7_bestOf 32 = .ok (.iload_n 1, 1) := by decide +kernel
theorem dX7_bestOf_33 : decode cX7_bestOf 33 = .ok (.invokevirtual 235, 3) := by decide +kernel
theorem dX7_bestOf_36 : decode cX7_bestOf 36 = .ok (.istore 5, 2) := by decide +kernel
theorem dX7_bestOf_38 : decode cX7_bestOf 38 = .ok (.iload 4, 2) := by decide +kernel
theorem dX7_bestOf_40 : decode cX7_bestOf 40 = .ok (.ifCond .eq 12, 3) := by decide +kernel
theorem dX7_bestOf_43 : decode cX7_bestOf 43 = .ok (.iload 5, 2) := by decide +kernel
theorem dX7_bestOf_45 : decode cX7_bestOf 45 = .ok (.aload_n 0, 1) := by decide +kernel
theorem dX7_bestOf_46 : decode cX7_bestOf 46 = .ok (.getfield 245, 3) := by decide +kernel
theorem dX7_bestOf_49 : decode cX7_bestOf 49 = .ok (.if_icmp .ge 8, 3) := by decide +kernel
theorem dX7_bestOf_52 : decode cX7_bestOf 52 = .ok (.iload 4, 2) := by decide +kernel
theorem dX7_bestOf_54 : decode cX7_bestOf 54 = .ok (.goto 4, 3) := by decide +kernel
theorem dX7_bestOf_57 : decode cX7_bestOf 57 = .ok (.iload_n 3, 1) := by decide +kernel
theorem dX7_bestOf_58 : decode cX7_bestOf 58 = .ok (.istore_n 3, 1) := by decide +kernel
theorem dX7_bestOf_59 : decode cX7_bestOf 59 = .ok (.aload_n 0, 1) := by decide +kernel
theorem dX7_bestOf_60 : decode cX7_bestOf 60 = .ok (.iload 4, 2) := by decide +kernel
theorem dX7_bestOf_62 : decode cX7_bestOf 62 = .ok (.ifCond .eq 12, 3) := by decide +kernel
theorem dX7_bestOf_65 : decode cX7_bestOf 65 = .ok (.iload 5, 2) := by decide +kernel
theorem dX7_bestOf_67 : decode cX7_bestOf 67 = .ok (.aload_n 0, 1) := by decide +kernel
theorem dX7_bestOf_68 : decode cX7_bestOf 68 = .ok (.getfield 245, 3) := by decide +kernel
theorem dX7_bestOf_71 : decode cX7_bestOf 71 = .ok (.if_icmp .ge 8, 3) := by decide +kernel
theorem dX7_bestOf_74 : decode cX7_bestOf 74 = .ok (.iload 5, 2) := by decide +kernel
theorem dX7_bestOf_76 : decode cX7_bestOf 76 = .ok (.goto 7, 3) := by decide +kernel
theorem dX7_bestOf_79 : decode cX7_bestOf 79 = .ok (.aload_n 0, 1) := by decide +kernel
theorem dX7_bestOf_80 : decode cX7_bestOf 80 = .ok (.getfield 245, 3) := by decide +kernel
theorem dX7_bestOf_83 : decode cX7_bestOf 83 = .ok (.putfield 245, 3) := by decide +kernel
theorem dX7_bestOf_86 : decode cX7_bestOf 86 = .ok (.iinc 4 1, 3) := by decide +kernel
theorem dX7_bestOf_89 : decode cX7_bestOf 89 = .ok (.goto (-77), 3) := by decide +kernel
theorem dX7_bestOf_92 : decode cX7_bestOf 92 = .ok (.aload_n 0, 1) := by decide +kernel
theorem dX7_bestOf_93 : decode cX7_bestOf 93 = .ok (.getfield 40, 3) := by decide +kernel
theorem dX7_bestOf_96 : decode cX7_bestOf 96 = .ok (.iload_n 1, 1) := by decide +kernel
theorem dX7_bestOf_97 : decode cX7_bestOf 97 = .ok (.iload_n 2, 1) := by decide +kernel
theorem dX7_bestOf_98 : decode cX7_bestOf 98 = .ok (.iastore, 1) := by decide +kernel
theorem dX7_bestOf_99 : decode cX7_bestOf 99 = .ok (.iload_n 3, 1) := by decide +kernel
theorem dX7_bestOf_100 : decode cX7_bestOf 100 = .ok (.ireturn, 1) := by decide +kernel
theorem dX7_best_0 : decode cX7_best 0 = .ok (.aload_n 0, 1) := by decide +kernel
theorem dX7_best_1 : decode cX7_best 1 = .ok (.iconst 0, 1) := by decide +kernel
theorem dX7_best_2 : decode cX7_best 2 = .ok (.putfield 65, 3) := by decide +kernel
theorem dX7_best_5 : decode cX7_best 5 = .ok (.aload_n 0, 1) := by decide +kernel
theorem dX7_best_6 : decode cX7_best 6 = .ok (.iload_n 1, 1) := by decide +kernel
theorem dX7_best_7 : decode cX7_best 7 = .ok (.invokevirtual 230, 3) := by decide +kernel
theorem dX7_best_10 : decode cX7_best 10 = .ok (.ifCond .eq 13, 3) := by decide +kernel
theorem dX7_best_13 : decode cX7_best 13 = .ok (.iload_n 2, 1) := by decide +kernel
theorem dX7_best_14 : decode cX7_best 14 = .ok (.i2l, 1) := by decide +kernel
theorem dX7_best_15 : decode cX7_best 15 = .ok (.lconst 0, 1) := by decide +kernel
theorem dX7_best_16 : decode cX7_best 16 = .ok (.lconst 1, 1) := by decide +kernel
theorem dX7_best_17 : decode cX7_best 17 = .ok (.invokestatic 75, 3) := by decide +kernel
theorem dX7_best_20 : decode cX7_best 20 = .ok (.ifCond .ne 6, 3) := by decide +kernel
theorem dX7_best_23 : decode cX7_best 23 = .ok (.ldc 85, 2) := by decide +kernel
theorem dX7_best_25 : decode cX7_best 25 = .ok (.ireturn, 1) := by decide +kernel
theorem dX7_best_26 : decode cX7_best 26 = .ok (.aload_n 0, 1) := by decide +kernel
theorem dX7_best_27 : decode cX7_best 27 = .ok (.invokevirtual 227, 3) := by decide +kernel
theorem dX7_best_30 : decode cX7_best 30 = .ok (.aload_n 0, 1) := by decide +kernel
theorem dX7_best_31 : decode cX7_best 31 = .ok (.iload_n 1, 1) := by decide +kernel
theorem dX7_best_32 : decode cX7_best 32 = .ok (.invokevirtual 248, 3) := by decide +kernel
theorem dX7_best_35 : decode cX7_best 35 = .ok (.istore_n 3, 1) := by decide +kernel
theorem dX7_best_36 : decode cX7_best 36 = .ok (.iload_n 2, 1) := by decide +kernel
theorem dX7_best_37 : decode cX7_best 37 = .ok (.ifCond .ne 7, 3) := by decide +kernel
theorem dX7_best_40 : decode cX7_best 40 = .ok (.iload_n 3, 1) := by decide +kernel
theorem dX7_best_41 : decode cX7_best 41 = .ok (.goto 7, 3) := by decide +kernel
theorem dX7_best_44 : decode cX7_best 44 = .ok (.aload_n 0, 1) := by decide +kernel
theorem dX7_best_45 : decode cX7_best 45 = .ok (.getfield 245, 3) := by decide +kernel
theorem dX7_best_48 : decode cX7_best 48 = .ok (.ireturn, 1) := by decide +kernel
theorem dX7_rest_0 : decode cX7_rest 0 = .ok (.aload_n 0, 1) := by decide +kernel
theorem dX7_rest_1 : decode cX7_rest 1 = .ok (.iconst 0, 1) := by decide +kernel
theorem dX7_rest_2 : decode cX7_rest 2 = .ok (.putfield 65, 3) := by decide +kernel
theorem dX7_rest_5 : decode cX7_rest 5 = .ok (.aload_n 0, 1) := by decide +kernel
theorem dX7_rest_6 : decode cX7_rest 6 = .ok (.getfield 186, 3) := by decide +kernel
theorem dX7_rest_9 : decode cX7_rest 9 = .ok (.ifCond .ne 6, 3) := by decide +kernel
theorem dX7_rest_12 : decode cX7_rest 12 = .ok (.ldc 223, 2) := by decide +kernel
theorem dX7_rest_14 : decode cX7_rest 14 = .ok (.ireturn, 1) := by decide +kernel
theorem dX7_rest_15 : decode cX7_rest 15 = .ok (.iload_n 1, 1) := by decide +kernel
theorem dX7_rest_16 : decode cX7_rest 16 = .ok (.i2l, 1) := by decide +kernel
theorem dX7_rest_17 : decode cX7_rest 17 = .ok (.ldc2_w 243, 3) := by decide +kernel
theorem dX7_rest_20 : decode cX7_rest 20 = .ok (.aload_n 0, 1) := by decide +kernel
theorem dX7_rest_21 : decode cX7_rest 21 = .ok (.getfield 19, 3) := by decide +kernel
theorem dX7_rest_24 : decode cX7_rest 24 = .ok (.iconst 0, 1) := by decide +kernel
theorem dX7_rest_25 : decode cX7_rest 25 = .ok (.iaload, 1) := by decide +kernel
theorem dX7_rest_26 : decode cX7_rest 26 = .ok (.iconst 1, 1) := by decide +kernel
theorem dX7_rest_27 : decode cX7_rest 27 = .ok (.isub, 1) := by decide +kernel
theorem dX7_rest_28 : decode cX7_rest 28 = .ok (.i2l, 1) := by decide +kernel
theorem dX7_rest_29 : decode cX7_rest 29 = .ok (.invokestatic 75, 3) := by decide +kernel
theorem dX7_rest_32 : decode cX7_rest 32 = .ok (.ifCond .ne 6, 3) := by decide +kernel
theorem dX7_rest_35 : decode cX7_rest 35 = .ok (.ldc 85, 2) := by decide +kernel
theorem dX7_rest_37 : decode cX7_rest 37 = .ok (.ireturn, 1) := by decide +kernel
theorem dX7_rest_38 : decode cX7_rest 38 = .ok (.aload_n 0, 1) := by decide +kernel
theorem dX7_rest_39 : decode cX7_rest 39 = .ok (.invokevirtual 227, 3) := by decide +kernel
theorem dX7_rest_42 : decode cX7_rest 42 = .ok (.ldc 101, 2) := by decide +kernel
theorem dX7_rest_44 : decode cX7_rest 44 = .ok (.istore_n 2, 1) := by decide +kernel
theorem dX7_rest_45 : decode cX7_rest 45 = .ok (.iconst 1, 1) := by decide +kernel
theorem dX7_rest_46 : decode cX7_rest 46 = .ok (.istore_n 3, 1) := by decide +kernel
theorem dX7_rest_47 : decode cX7_rest 47 = .ok (.iload_n 3, 1) := by decide +kernel
theorem dX7_rest_48 : decode cX7_rest 48 = .ok (.bipush 20, 2) := by decide +kernel
theorem dX7_rest_50 : decode cX7_rest 50 = .ok (.if_icmp .gt 89, 3) := by decide +kernel
theorem dX7_rest_53 : decode cX7_rest 53 = .ok (.iload_n 2, 1) := by decide +kernel
theorem dX7_rest_54 : decode cX7_rest 54 = .ok (.ldc 101, 2) := by decide +kernel
theorem dX7_rest_56 : decode cX7_rest 56 = .ok (.if_icmp .ne 83, 3) := by decide +kernel
theorem dX7_rest_59 : decode cX7_rest 59 = .ok (.iconst 1, 1) := by decide +kernel
theorem dX7_rest_60 : decode cX7_rest 60 = .ok (.istore 4, 2) := by decide +kernel
theorem dX7_rest_62 : decode cX7_rest 62 = .ok (.iconst 0, 1) := by decide +kernel
theorem dX7_rest_63 : decode cX7_rest 63 = .ok (.istore 5, 2) := by decide +kernel
theorem dX7_rest_65 : decode cX7_rest 65 = .ok (.iload 5, 2) := by decide +kernel
theorem dX7_rest_67 : decode cX7_rest 67 = .ok (.aload_n 0, 1) := by decide +kernel
theorem dX7_rest_68 : decode cX7_rest 68 = .ok (.getfield 195, 3) := by decide +kernel
theorem dX7_rest_71 : decode cX7_rest 71 = .ok (.if_icmp .ge 50, 3) := by decide +kernel
theorem dX7_rest_74 : decode cX7_rest 74 = .ok (.aload_n 0, 1) := by decide +kernel
theorem dX7_rest_75 : decode cX7_rest 75 = .ok (.iload 5, 2) := by decide +kernel
theorem dX7_rest_77 : decode cX7_rest 77 = .ok (.invokevirtual 248, 3) := by decide +kernel
theorem dX7_rest_80 : decode cX7_rest 80 = .ok (.istore 6, 2) := by decide +kernel
theorem dX7_rest_82 : decode cX7_rest 82 = .ok (.iload 4, 2) := by decide +kernel
theorem dX7_rest_84 : decode cX7_rest 84 = .ok (.ifCond .eq 19, 3) := by decide +kernel
theorem dX7_rest_87 : decode cX7_rest 87 = .ok (.iload 6, 2) := by decide +kernel
theorem dX7_rest_89 : decode cX7_rest 89 = .ok (.aload_n 0, 1) := by decide +kernel
theorem dX7_rest_90 : decode cX7_rest 90 = .ok (.getfield 40, 3) := by decide +kernel
theorem dX7_rest_93 : decode cX7_rest 93 = .ok (.iload 5, 2) := by decide +kernel
theorem dX7_rest_95 : decode cX7_rest 95 = .ok (.iaload, 1) := by decide +kernel
theorem dX7_rest_96 : decode cX7_rest 96 = .ok (.if_icmp .ne 7, 3) := by decide +kernel
theorem dX7_rest_99 : decode cX7_rest 99 = .ok (.iconst 1, 1) := by decide +kernel
theorem dX7_rest_100 : decode cX7_rest 100 = .ok (.goto 4, 3) := by decide +kernel
theorem dX7_rest_103 : decode cX7_rest 103 = .ok (.iconst 0, 1) := by decide +kernel
theorem dX7_rest_104 : decode cX7_rest 104 = .ok (.istore 4, 2) := by decide +kernel
theorem dX7_rest_106 : decode cX7_rest 106 = .ok (.aload_n 0, 1) := by decide +kernel
theorem dX7_rest_107 : decode cX7_rest 107 = .ok (.getfield 40, 3) := by decide +kernel
theorem dX7_rest_110 : decode cX7_rest 110 = .ok (.iload 5, 2) := by decide +kernel
theorem dX7_rest_112 : decode cX7_rest 112 = .ok (.iload 6, 2) := by decide +kernel
theorem dX7_rest_114 : decode cX7_rest 114 = .ok (.iastore, 1) := by decide +kernel
theorem dX7_rest_115 : decode cX7_rest 115 = .ok (.iinc 5 1, 3) := by decide +kernel
theorem dX7_rest_118 : decode cX7_rest 118 = .ok (.goto (-53), 3) := by decide +kernel
theorem dX7_rest_121 : decode cX7_rest 121 = .ok (.iload 4, 2) := by decide +kernel
theorem dX7_rest_123 : decode cX7_rest 123 = .ok (.ifCond .eq 7, 3) := by decide +kernel
theorem dX7_rest_126 : decode cX7_rest 126 = .ok (.iload_n 3, 1) := by decide +kernel
theorem dX7_rest_127 : decode cX7_rest 127 = .ok (.goto 5, 3) := by decide +kernel
theorem dX7_rest_130 : decode cX7_rest 130 = .ok (.ldc 101, 2) := by decide +kernel
theorem dX7_rest_132 : decode cX7_rest 132 = .ok (.istore_n 2, 1) := by decide +kernel
theorem dX7_rest_133 : decode cX7_rest 133 = .ok (.iinc 3 1, 3) := by decide +kernel
theorem dX7_rest_136 : decode cX7_rest 136 = .ok (.goto (-89), 3) := by decide +kernel
theorem dX7_rest_139 : decode cX7_rest 139 = .ok (.iload_n 1, 1) := by decide +kernel
theorem dX7_rest_140 : decode cX7_rest 140 = .ok (.ifCond .ge 7, 3) := by decide +kernel
theorem dX7_rest_143 : decode cX7_rest 143 = .ok (.iload_n 2, 1) := by decide +kernel
theorem dX7_rest_144 : decode cX7_rest 144 = .ok (.goto 9, 3) := by decide +kernel
theorem dX7_rest_147 : decode cX7_rest 147 = .ok (.aload_n 0, 1) := by decide +kernel
theorem dX7_rest_148 : decode cX7_rest 148 = .ok (.getfield 40, 3) := by decide +kernel
theorem dX7_rest_151 : decode cX7_rest 151 = .ok (.iload_n 1, 1) := by decide +kernel
theorem dX7_rest_152 : decode cX7_rest 152 = .ok (.iaload, 1) := by decide +kernel
theorem dX7_rest_153 : decode cX7_rest 153 = .ok (.ireturn, 1) := by decide +kernel
theorem dX7_thought_0 : decode cX7_thought 0 = .ok (.aload_n 0, 1) := by decide +kernel
theorem dX7_thought_1 : decode cX7_thought 1 = .ok (.iconst 0, 1) := by decide +kernel
theorem dX7_thought_2 : decode cX7_thought 2 = .ok (.putfield 65, 3) := by decide +kernel
theorem dX7_thought_5 : decode cX7_thought 5 = .ok (.aload_n 0, 1) := by decide +kernel
theorem dX7_thought_6 : decode cX7_thought 6 = .ok (.iload_n 1, 1) := by decide +kernel
theorem dX7_thought_7 : decode cX7_thought 7 = .ok (.invokevirtual 230, 3) := by decide +kernel
theorem dX7_thought_10 : decode cX7_thought 10 = .ok (.ifCond .eq 10, 3) := by decide +kernel
theorem dX7_thought_13 : decode cX7_thought 13 = .ok (.iload_n 2, 1) := by decide +kernel
theorem dX7_thought_14 : decode cX7_thought 14 = .ok (.invokestatic 251, 3) := by decide +kernel
theorem dX7_thought_17 : decode cX7_thought 17 = .ok (.ifCond .ne 6, 3) := by decide +kernel
theorem dX7_thought_20 : decode cX7_thought 20 = .ok (.ldc 85, 2) := by decide +kernel
theorem dX7_thought_22 : decode cX7_thought 22 = .ok (.ireturn, 1) := by decide +kernel
theorem dX7_thought_23 : decode cX7_thought 23 = .ok (.aload_n 0, 1) := by decide +kernel
theorem dX7_thought_24 : decode cX7_thought 24 = .ok (.invokevirtual 227, 3) := by decide +kernel
theorem dX7_thought_27 : decode cX7_thought 27 = .ok (.iconst 0, 1) := by decide +kernel
theorem dX7_thought_28 : decode cX7_thought 28 = .ok (.istore_n 3, 1) := by decide +kernel
theorem dX7_thought_29 : decode cX7_thought 29 = .ok (.iconst 0, 1) := by decide +kernel
theorem dX7_thought_30 : decode cX7_thought 30 = .ok (.istore 4, 2) := by decide +kernel
theorem dX7_thought_32 : decode cX7_thought 32 = .ok (.iload 4, 2) := by decide +kernel
theorem dX7_thought_34 : decode cX7_thought 34 = .ok (.bipush 11, 2) := by decide +kernel
theorem dX7_thought_36 : decode cX7_thought 36 = .ok (.if_icmp .gt 42, 3) := by decide +kernel
theorem dX7_thought_39 : decode cX7_thought 39 = .ok (.aload_n 0, 1) := by decide +kernel
theorem dX7_thought_40 : decode cX7_thought 40 = .ok (.getfield 40, 3) := by decide +kernel
theorem dX7_thought_43 : decode cX7_thought 43 = .ok (.iload_n 1, 1) := by decide +kernel
theorem dX7_thought_44 : decode cX7_thought 44 = .ok (.iload 4, 2) := by decide +kernel
theorem dX7_thought_46 : decode cX7_thought 46 = .ok (.iastore, 1) := by decide +kernel
theorem dX7_thought_47 : decode cX7_thought 47 = .ok (.aload_n 0, 1) := by decide +kernel
end
section
theorem dX7_thought_48 : decode cX7_thought 48 = .ok (.invokevirtual 238, 3) := by decide +kernel
theorem dX7_thought_51 : decode cX7_thought 51 = .ok (.iload_n 3, 1) := by decide +kernel
theorem dX7_thought_52 : decode cX7_thought 52 = .ok (.aload_n 0, 1) := by decide +kernel
theorem dX7_thought_53 : decode cX7_thought 53 = .ok (.getfield 43, 3) := by decide +kernel
theorem dX7_thought_56 : decode cX7_thought 56 = .ok (.iload_n 1, 1) := by decide +kernel
theorem dX7_thought_57 : decode cX7_thought 57 = .ok (.iaload, 1) := by decide +kernel
theorem dX7_thought_58 : decode cX7_thought 58 = .ok (.iload_n 2, 1) := by decide +kernel
theorem dX7_thought_59 : decode cX7_thought 59 = .ok (.if_icmp .ne 10, 3) := by decide +kernel
theorem dX7_thought_62 : decode cX7_thought 62 = .ok (.iconst 1, 1) := by decide +kernel
theorem dX7_thought_63 : decode cX7_thought 63 = .ok (.iload 4, 2) := by decide +kernel
theorem dX7_thought_65 : decode cX7_thought 65 = .ok (.ishl, 1) := by decide +kernel
theorem dX7_thought_66 : decode cX7_thought 66 = .ok (.goto 4, 3) := by decide +kernel
theorem dX7_thought_69 : decode cX7_thought 69 = .ok (.iconst 0, 1) := by decide +kernel
theorem dX7_thought_70 : decode cX7_thought 70 = .ok (.ior, 1) := by decide +kernel
theorem dX7_thought_71 : decode cX7_thought 71 = .ok (.istore_n 3, 1) := by decide +kernel
theorem dX7_thought_72 : decode cX7_thought 72 = .ok (.iinc 4 1, 3) := by decide +kernel
theorem dX7_thought_75 : decode cX7_thought 75 = .ok (.goto (-43), 3) := by decide +kernel
theorem dX7_thought_78 : decode cX7_thought 78 = .ok (.iload_n 3, 1) := by decide +kernel
theorem dX7_thought_79 : decode cX7_thought 79 = .ok (.ireturn, 1) := by decide +kernel
theorem dX7_two_0 : decode cX7_two 0 = .ok (.aload_n 0, 1) := by decide +kernel
theorem dX7_two_1 : decode cX7_two 1 = .ok (.iconst 0, 1) := by decide +kernel
theorem dX7_two_2 : decode cX7_two 2 = .ok (.putfield 65, 3) := by decide +kernel
theorem dX7_two_5 : decode cX7_two 5 = .ok (.aload_n 0, 1) := by decide +kernel
theorem dX7_two_6 : decode cX7_two 6 = .ok (.iload_n 1, 1) := by decide +kernel
theorem dX7_two_7 : decode cX7_two 7 = .ok (.invokevirtual 230, 3) := by decide +kernel
theorem dX7_two_10 : decode cX7_two 10 = .ok (.ifCond .eq 34, 3) := by decide +kernel
theorem dX7_two_13 : decode cX7_two 13 = .ok (.aload_n 0, 1) := by decide +kernel
theorem dX7_two_14 : decode cX7_two 14 = .ok (.iload_n 2, 1) := by decide +kernel
theorem dX7_two_15 : decode cX7_two 15 = .ok (.invokevirtual 230, 3) := by decide +kernel
theorem dX7_two_18 : decode cX7_two 18 = .ok (.ifCond .eq 26, 3) := by decide +kernel
theorem dX7_two_21 : decode cX7_two 21 = .ok (.iload_n 1, 1) := by decide +kernel
theorem dX7_two_22 : decode cX7_two 22 = .ok (.iload_n 2, 1) := by decide +kernel
theorem dX7_two_23 : decode cX7_two 23 = .ok (.if_icmp .eq 21, 3) := by decide +kernel
theorem dX7_two_26 : decode cX7_two 26 = .ok (.iload_n 3, 1) := by decide +kernel
theorem dX7_two_27 : decode cX7_two 27 = .ok (.invokestatic 251, 3) := by decide +kernel
theorem dX7_two_30 : decode cX7_two 30 = .ok (.ifCond .eq 14, 3) := by decide +kernel
theorem dX7_two_33 : decode cX7_two 33 = .ok (.iload 4, 2) := by decide +kernel
theorem dX7_two_35 : decode cX7_two 35 = .ok (.i2l, 1) := by decide +kernel
theorem dX7_two_36 : decode cX7_two 36 = .ok (.lconst 0, 1) := by decide +kernel
theorem dX7_two_37 : decode cX7_two 37 = .ok (.lconst 1, 1) := by decide +kernel
theorem dX7_two_38 : decode cX7_two 38 = .ok (.invokestatic 75, 3) := by decide +kernel
theorem dX7_two_41 : decode cX7_two 41 = .ok (.ifCond .ne 6, 3) := by decide +kernel
theorem dX7_two_44 : decode cX7_two 44 = .ok (.ldc 85, 2) := by decide +kernel
theorem dX7_two_46 : decode cX7_two 46 = .ok (.ireturn, 1) := by decide +kernel
theorem dX7_two_47 : decode cX7_two 47 = .ok (.aload_n 0, 1) := by decide +kernel
theorem dX7_two_48 : decode cX7_two 48 = .ok (.iconst 2, 1) := by decide +kernel
theorem dX7_two_49 : decode cX7_two 49 = .ok (.invokevirtual 217, 3) := by decide +kernel
theorem dX7_two_52 : decode cX7_two 52 = .ok (.istore 5, 2) := by decide +kernel
theorem dX7_two_54 : decode cX7_two 54 = .ok (.iload 5, 2) := by decide +kernel
theorem dX7_two_56 : decode cX7_two 56 = .ok (.istore 6, 2) := by decide +kernel
theorem dX7_two_58 : decode cX7_two 58 = .ok (.iconst 0, 1) := by decide +kernel
theorem dX7_two_59 : decode cX7_two 59 = .ok (.istore 7, 2) := by decide +kernel
theorem dX7_two_61 : decode cX7_two 61 = .ok (.bipush 11, 2) := by decide +kernel
theorem dX7_two_63 : decode cX7_two 63 = .ok (.istore 8, 2) := by decide +kernel
theorem dX7_two_65 : decode cX7_two 65 = .ok (.iload_n 1, 1) := by decide +kernel
theorem dX7_two_66 : decode cX7_two 66 = .ok (.istore 9, 2) := by decide +kernel
theorem dX7_two_68 : decode cX7_two 68 = .ok (.bipush 10, 2) := by decide +kernel
theorem dX7_two_70 : decode cX7_two 70 = .ok (.istore 10, 2) := by decide +kernel
theorem dX7_two_72 : decode cX7_two 72 = .ok (.iload 10, 2) := by decide +kernel
theorem dX7_two_74 : decode cX7_two 74 = .ok (.iload_n 3, 1) := by decide +kernel
theorem dX7_two_75 : decode cX7_two 75 = .ok (.if_icmp .lt 155, 3) := by decide +kernel
theorem dX7_two_78 : decode cX7_two 78 = .ok (.aload_n 0, 1) := by decide +kernel
theorem dX7_two_79 : decode cX7_two 79 = .ok (.iload_n 1, 1) := by decide +kernel
theorem dX7_two_80 : decode cX7_two 80 = .ok (.iconst 2, 1) := by decide +kernel
theorem dX7_two_81 : decode cX7_two 81 = .ok (.invokevirtual 201, 3) := by decide +kernel
theorem dX7_two_84 : decode cX7_two 84 = .ok (.iload 6, 2) := by decide +kernel
theorem dX7_two_86 : decode cX7_two 86 = .ok (.iadd, 1) := by decide +kernel
theorem dX7_two_87 : decode cX7_two 87 = .ok (.istore 11, 2) := by decide +kernel
theorem dX7_two_89 : decode cX7_two 89 = .ok (.aload_n 0, 1) := by decide +kernel
theorem dX7_two_90 : decode cX7_two 90 = .ok (.iload_n 2, 1) := by decide +kernel
theorem dX7_two_91 : decode cX7_two 91 = .ok (.iconst 2, 1) := by decide +kernel
theorem dX7_two_92 : decode cX7_two 92 = .ok (.invokevirtual 201, 3) := by decide +kernel
theorem dX7_two_95 : decode cX7_two 95 = .ok (.iload 7, 2) := by decide +kernel
theorem dX7_two_97 : decode cX7_two 97 = .ok (.iadd, 1) := by decide +kernel
theorem dX7_two_98 : decode cX7_two 98 = .ok (.istore 12, 2) := by decide +kernel
theorem dX7_two_100 : decode cX7_two 100 = .ok (.iload 5, 2) := by decide +kernel
theorem dX7_two_102 : decode cX7_two 102 = .ok (.iload 12, 2) := by decide +kernel
theorem dX7_two_104 : decode cX7_two 104 = .ok (.if_icmp .gt 7, 3) := by decide +kernel
theorem dX7_two_107 : decode cX7_two 107 = .ok (.iconst 1, 1) := by decide +kernel
theorem dX7_two_108 : decode cX7_two 108 = .ok (.goto 4, 3) := by decide +kernel
theorem dX7_two_111 : decode cX7_two 111 = .ok (.iconst 0, 1) := by decide +kernel
theorem dX7_two_112 : decode cX7_two 112 = .ok (.istore 13, 2) := by decide +kernel
theorem dX7_two_114 : decode cX7_two 114 = .ok (.iload 5, 2) := by decide +kernel
theorem dX7_two_116 : decode cX7_two 116 = .ok (.iload 13, 2) := by decide +kernel
theorem dX7_two_118 : decode cX7_two 118 = .ok (.ifCond .eq 7, 3) := by decide +kernel
theorem dX7_two_121 : decode cX7_two 121 = .ok (.iconst 0, 1) := by decide +kernel
theorem dX7_two_122 : decode cX7_two 122 = .ok (.goto 5, 3) := by decide +kernel
theorem dX7_two_125 : decode cX7_two 125 = .ok (.iload 11, 2) := by decide +kernel
theorem dX7_two_127 : decode cX7_two 127 = .ok (.if_icmp .gt 7, 3) := by decide +kernel
theorem dX7_two_130 : decode cX7_two 130 = .ok (.iconst 1, 1) := by decide +kernel
theorem dX7_two_131 : decode cX7_two 131 = .ok (.goto 4, 3) := by decide +kernel
theorem dX7_two_134 : decode cX7_two 134 = .ok (.iconst 0, 1) := by decide +kernel
theorem dX7_two_135 : decode cX7_two 135 = .ok (.istore 14, 2) := by decide +kernel
theorem dX7_two_137 : decode cX7_two 137 = .ok (.iload 14, 2) := by decide +kernel
theorem dX7_two_139 : decode cX7_two 139 = .ok (.ifCond .eq 8, 3) := by decide +kernel
theorem dX7_two_142 : decode cX7_two 142 = .ok (.iload 5, 2) := by decide +kernel
theorem dX7_two_144 : decode cX7_two 144 = .ok (.goto 14, 3) := by decide +kernel
theorem dX7_two_147 : decode cX7_two 147 = .ok (.iload 13, 2) := by decide +kernel
theorem dX7_two_149 : decode cX7_two 149 = .ok (.ifCond .eq 7, 3) := by decide +kernel
theorem dX7_two_152 : decode cX7_two 152 = .ok (.iconst 0, 1) := by decide +kernel
theorem dX7_two_153 : decode cX7_two 153 = .ok (.goto 5, 3) := by decide +kernel
theorem dX7_two_156 : decode cX7_two 156 = .ok (.iload 11, 2) := by decide +kernel
theorem dX7_two_158 : decode cX7_two 158 = .ok (.istore 6, 2) := by decide +kernel
theorem dX7_two_160 : decode cX7_two 160 = .ok (.iload 14, 2) := by decide +kernel
theorem dX7_two_162 : decode cX7_two 162 = .ok (.ifCond .eq 7, 3) := by decide +kernel
theorem dX7_two_165 : decode cX7_two 165 = .ok (.iconst 0, 1) := by decide +kernel
theorem dX7_two_166 : decode cX7_two 166 = .ok (.goto 15, 3) := by decide +kernel
theorem dX7_two_169 : decode cX7_two 169 = .ok (.iload 13, 2) := by decide +kernel
theorem dX7_two_171 : decode cX7_two 171 = .ok (.ifCond .eq 8, 3) := by decide +kernel
theorem dX7_two_174 : decode cX7_two 174 = .ok (.iload 5, 2) := by decide +kernel
theorem dX7_two_176 : decode cX7_two 176 = .ok (.goto 5, 3) := by decide +kernel
theorem dX7_two_179 : decode cX7_two 179 = .ok (.iload 12, 2) := by decide +kernel
theorem dX7_two_181 : decode cX7_two 181 = .ok (.istore 7, 2) := by decide +kernel
theorem dX7_two_183 : decode cX7_two 183 = .ok (.iload 14, 2) := by decide +kernel
theorem dX7_two_185 : decode cX7_two 185 = .ok (.ifCond .ne 8, 3) := by decide +kernel
theorem dX7_two_188 : decode cX7_two 188 = .ok (.iload 13, 2) := by decide +kernel
theorem dX7_two_190 : decode cX7_two 190 = .ok (.ifCond .eq 8, 3) := by decide +kernel
theorem dX7_two_193 : decode cX7_two 193 = .ok (.iload 10, 2) := by decide +kernel
theorem dX7_two_195 : decode cX7_two 195 = .ok (.goto 5, 3) := by decide +kernel
theorem dX7_two_198 : decode cX7_two 198 = .ok (.iload 8, 2) := by decide +kernel
theorem dX7_two_200 : decode cX7_two 200 = .ok (.istore 8, 2) := by decide +kernel
theorem dX7_two_202 : decode cX7_two 202 = .ok (.iload 14, 2) := by decide +kernel
theorem dX7_two_204 : decode cX7_two 204 = .ok (.ifCond .eq 7, 3) := by decide +kernel
theorem dX7_two_207 : decode cX7_two 207 = .ok (.iload_n 1, 1) := by decide +kernel
theorem dX7_two_208 : decode cX7_two 208 = .ok (.goto 14, 3) := by decide +kernel
theorem dX7_two_211 : decode cX7_two 211 = .ok (.iload 13, 2) := by decide +kernel
theorem dX7_two_213 : decode cX7_two 213 = .ok (.ifCond .eq 7, 3) := by decide +kernel
theorem dX7_two_216 : decode cX7_two 216 = .ok (.iload_n 2, 1) := by decide +kernel
theorem dX7_two_217 : decode cX7_two 217 = .ok (.goto 5, 3) := by decide +kernel
theorem dX7_two_220 : decode cX7_two 220 = .ok (.iload 9, 2) := by decide +kernel
theorem dX7_two_222 : decode cX7_two 222 = .ok (.istore 9, 2) := by decide +kernel
theorem dX7_two_224 : decode cX7_two 224 = .ok (.iinc 10 (-1), 3) := by decide +kernel
theorem dX7_two_227 : decode cX7_two 227 = .ok (.goto (-155), 3) := by decide +kernel
theorem dX7_two_230 : decode cX7_two 230 = .ok (.iload 4, 2) := by decide +kernel
theorem dX7_two_232 : decode cX7_two 232 = .ok (.ifCond .ne 8, 3) := by decide +kernel
theorem dX7_two_235 : decode cX7_two 235 = .ok (.iload 8, 2) := by decide +kernel
theorem dX7_two_237 : decode cX7_two 237 = .ok (.goto 5, 3) := by decide +kernel
theorem dX7_two_240 : decode cX7_two 240 = .ok (.iload 9, 2) := by decide +kernel
theorem dX7_two_242 : decode cX7_two 242 = .ok (.ireturn, 1) := by decide +kernel
theorem dX7_part_0 : decode cX7_part 0 = .ok (.iload_n 0, 1) := by decide +kernel
theorem dX7_part_1 : decode cX7_part 1 = .ok (.iload_n 1, 1) := by decide +kernel
theorem dX7_part_2 : decode cX7_part 2 = .ok (.idiv, 1) := by decide +kernel
theorem dX7_part_3 : decode cX7_part 3 = .ok (.iload_n 2, 1) := by decide +kernel
theorem dX7_part_4 : decode cX7_part 4 = .ok (.iload_n 0, 1) := by decide +kernel
theorem dX7_part_5 : decode cX7_part 5 = .ok (.iload_n 1, 1) := by decide +kernel
theorem dX7_part_6 : decode cX7_part 6 = .ok (.irem, 1) := by decide +kernel
theorem dX7_part_7 : decode cX7_part 7 = .ok (.if_icmp .ge 7, 3) := by decide +kernel
theorem dX7_part_10 : decode cX7_part 10 = .ok (.iconst 1, 1) := by decide +kernel
theorem dX7_part_11 : decode cX7_part 11 = .ok (.goto 4, 3) := by decide +kernel
theorem dX7_part_14 : decode cX7_part 14 = .ok (.iconst 0, 1) := by decide +kernel
theorem dX7_part_15 : decode cX7_part 15 = .ok (.iadd, 1) := by decide +kernel
theorem dX7_part_16 : decode cX7_part 16 = .ok (.ireturn, 1) := by decide +kernel
theorem dX7_shares_0 : decode cX7_shares 0 = .ok (.aload_n 0, 1) := by decide +kernel
theorem dX7_shares_1 : decode cX7_shares 1 = .ok (.iconst 0, 1) := by decide +kernel
theorem dX7_shares_2 : decode cX7_shares 2 = .ok (.putfield 65, 3) := by decide +kernel
theorem dX7_shares_5 : decode cX7_shares 5 = .ok (.aload_n 0, 1) := by decide +kernel
theorem dX7_shares_6 : decode cX7_shares 6 = .ok (.getfield 186, 3) := by decide +kernel
theorem dX7_shares_9 : decode cX7_shares 9 = .ok (.ifCond .ne 6, 3) := by decide +kernel
theorem dX7_shares_12 : decode cX7_shares 12 = .ok (.ldc 223, 2) := by decide +kernel
theorem dX7_shares_14 : decode cX7_shares 14 = .ok (.ireturn, 1) := by decide +kernel
theorem dX7_shares_15 : decode cX7_shares 15 = .ok (.iload_n 1, 1) := by decide +kernel
theorem dX7_shares_16 : decode cX7_shares 16 = .ok (.i2l, 1) := by decide +kernel
theorem dX7_shares_17 : decode cX7_shares 17 = .ok (.lconst 1, 1) := by decide +kernel
theorem dX7_shares_18 : decode cX7_shares 18 = .ok (.ldc2_w 254, 3) := by decide +kernel
theorem dX7_shares_21 : decode cX7_shares 21 = .ok (.invokestatic 75, 3) := by decide +kernel
theorem dX7_shares_24 : decode cX7_shares 24 = .ok (.ifCond .eq 8, 3) := by decide +kernel
theorem dX7_shares_27 : decode cX7_shares 27 = .ok (.iload_n 2, 1) := by decide +kernel
theorem dX7_shares_28 : decode cX7_shares 28 = .ok (.iconst (-1), 1) := by decide +kernel
theorem dX7_shares_29 : decode cX7_shares 29 = .ok (.if_icmp .ge 6, 3) := by decide +kernel
theorem dX7_shares_32 : decode cX7_shares 32 = .ok (.ldc 85, 2) := by decide +kernel
theorem dX7_shares_34 : decode cX7_shares 34 = .ok (.ireturn, 1) := by decide +kernel
theorem dX7_shares_35 : decode cX7_shares 35 = .ok (.aload_n 0, 1) := by decide +kernel
theorem dX7_shares_36 : decode cX7_shares 36 = .ok (.iload_n 1, 1) := by decide +kernel
theorem dX7_shares_37 : decode cX7_shares 37 = .ok (.invokevirtual 217, 3) := by decide +kernel
theorem dX7_shares_40 : decode cX7_shares 40 = .ok (.istore_n 3, 1) := by decide +kernel
theorem dX7_shares_41 : decode cX7_shares 41 = .ok (.iload_n 2, 1) := by decide +kernel
theorem dX7_shares_42 : decode cX7_shares 42 = .ok (.ifCond .lt 20, 3) := by decide +kernel
theorem dX7_shares_45 : decode cX7_shares 45 = .ok (.iload_n 2, 1) := by decide +kernel
theorem dX7_shares_46 : decode cX7_shares 46 = .ok (.iload_n 1, 1) := by decide +kernel
theorem dX7_shares_47 : decode cX7_shares 47 = .ok (.if_icmp .ge 12, 3) := by decide +kernel
theorem dX7_shares_50 : decode cX7_shares 50 = .ok (.iload_n 3, 1) := by decide +kernel
theorem dX7_shares_51 : decode cX7_shares 51 = .ok (.iload_n 1, 1) := by decide +kernel
theorem dX7_shares_52 : decode cX7_shares 52 = .ok (.iload_n 2, 1) := by decide +kernel
theorem dX7_shares_53 : decode cX7_shares 53 = .ok (.invokestatic 256, 3) := by decide +kernel
theorem dX7_shares_56 : decode cX7_shares 56 = .ok (.goto 5, 3) := by decide +kernel
theorem dX7_shares_59 : decode cX7_shares 59 = .ok (.ldc 101, 2) := by decide +kernel
theorem dX7_shares_61 : decode cX7_shares 61 = .ok (.ireturn, 1) := by decide +kernel
theorem dX7_shares_62 : decode cX7_shares 62 = .ok (.iconst 0, 1) := by decide +kernel
theorem dX7_shares_63 : decode cX7_shares 63 = .ok (.istore 4, 2) := by decide +kernel
theorem dX7_shares_65 : decode cX7_shares 65 = .ok (.iconst 1, 1) := by decide +kernel
theorem dX7_shares_66 : decode cX7_shares 66 = .ok (.istore 5, 2) := by decide +kernel
theorem dX7_shares_68 : decode cX7_shares 68 = .ok (.iconst 1, 1) := by decide +kernel
theorem dX7_shares_69 : decode cX7_shares 69 = .ok (.istore 6, 2) := by decide +kernel
theorem dX7_shares_71 : decode cX7_shares 71 = .ok (.iload 6, 2) := by decide +kernel
theorem dX7_shares_73 : decode cX7_shares 73 = .ok (.iload_n 1, 1) := by decide +kernel
theorem dX7_shares_74 : decode cX7_shares 74 = .ok (.if_icmp .ge 46, 3) := by decide +kernel
theorem dX7_shares_77 : decode cX7_shares 77 = .ok (.iload 4, 2) := by decide +kernel
theorem dX7_shares_79 : decode cX7_shares 79 = .ok (.iload_n 3, 1) := by decide +kernel
theorem dX7_shares_80 : decode cX7_shares 80 = .ok (.iload_n 1, 1) := by decide +kernel
theorem dX7_shares_81 : decode cX7_shares 81 = .ok (.iload 6, 2) := by decide +kernel
theorem dX7_shares_83 : decode cX7_shares 83 = .ok (.iconst 1, 1) := by decide +kernel
theorem dX7_shares_84 : decode cX7_shares 84 = .ok (.isub, 1) := by decide +kernel
theorem dX7_shares_85 : decode cX7_shares 85 = .ok (.invokestatic 256, 3) := by decide +kernel
theorem dX7_shares_88 : decode cX7_shares 88 = .ok (.iadd, 1) := by decide +kernel
theorem dX7_shares_89 : decode cX7_shares 89 = .ok (.istore 4, 2) := by decide +kernel
theorem dX7_shares_91 : decode cX7_shares 91 = .ok (.iload 5, 2) := by decide +kernel
theorem dX7_shares_93 : decode cX7_shares 93 = .ok (.ifCond .eq 18, 3) := by decide +kernel
theorem dX7_shares_96 : decode cX7_shares 96 = .ok (.iload 4, 2) := by decide +kernel
theorem dX7_shares_98 : decode cX7_shares 98 = .ok (.aload_n 0, 1) := by decide +kernel
theorem dX7_shares_99 : decode cX7_shares 99 = .ok (.iload 6, 2) := by decide +kernel
theorem dX7_shares_101 : decode cX7_shares 101 = .ok (.invokevirtual 217, 3) := by decide +kernel
theorem dX7_shares_104 : decode cX7_shares 104 = .ok (.if_icmp .gt 7, 3) := by decide +kernel
theorem dX7_shares_107 : decode cX7_shares 107 = .ok (.iconst 1, 1) := by decide +kernel
theorem dX7_shares_108 : decode cX7_shares 108 = .ok (.goto 4, 3) := by decide +kernel
theorem dX7_shares_111 : decode cX7_shares 111 = .ok (.iconst 0, 1) := by decide +kernel
theorem dX7_shares_112 : decode cX7_shares 112 = .ok (.istore 5, 2) := by decide +kernel
theorem dX7_shares_114 : decode cX7_shares 114 = .ok (.iinc 6 1, 3) := by decide +kernel
theorem dX7_shares_117 : decode cX7_shares 117 = .ok (.goto (-46), 3) := by decide +kernel
theorem dX7_shares_120 : decode cX7_shares 120 = .ok (.iload 5, 2) := by decide +kernel
theorem dX7_shares_122 : decode cX7_shares 122 = .ok (.ifCond .eq 7, 3) := by decide +kernel
theorem dX7_shares_125 : decode cX7_shares 125 = .ok (.iconst 1, 1) := by decide +kernel
theorem dX7_shares_126 : decode cX7_shares 126 = .ok (.goto 4, 3) := by decide +kernel
theorem dX7_shares_129 : decode cX7_shares 129 = .ok (.iconst 0, 1) := by decide +kernel
theorem dX7_shares_130 : decode cX7_shares 130 = .ok (.ireturn, 1) := by decide +kernel
theorem dX7_size_0 : decode cX7_size 0 = .ok (.aload_n 0, 1) := by decide +kernel
theorem dX7_size_1 : decode cX7_size 1 = .ok (.iconst 0, 1) := by decide +kernel
theorem dX7_size_2 : decode cX7_size 2 = .ok (.putfield 65, 3) := by decide +kernel
theorem dX7_size_5 : decode cX7_size 5 = .ok (.aload_n 0, 1) := by decide +kernel
theorem dX7_size_6 : decode cX7_size 6 = .ok (.getfield 186, 3) := by decide +kernel
theorem dX7_size_9 : decode cX7_size 9 = .ok (.ifCond .ne 6, 3) := by decide +kernel
theorem dX7_size_12 : decode cX7_size 12 = .ok (.ldc 223, 2) := by decide +kernel
theorem dX7_size_14 : decode cX7_size 14 = .ok (.ireturn, 1) := by decide +kernel
theorem dX7_size_15 : decode cX7_size 15 = .ok (.iconst 1, 1) := by decide +kernel
theorem dX7_size_16 : decode cX7_size 16 = .ok (.istore_n 1, 1) := by decide +kernel
theorem dX7_size_17 : decode cX7_size 17 = .ok (.iconst 2, 1) := by decide +kernel
theorem dX7_size_18 : decode cX7_size 18 = .ok (.istore_n 2, 1) := by decide +kernel
theorem dX7_size_19 : decode cX7_size 19 = .ok (.iload_n 2, 1) := by decide +kernel
theorem dX7_size_20 : decode cX7_size 20 = .ok (.bipush 6, 2) := by decide +kernel
theorem dX7_size_22 : decode cX7_size 22 = .ok (.if_icmp .gt 32, 3) := by decide +kernel
theorem dX7_size_25 : decode cX7_size 25 = .ok (.aload_n 0, 1) := by decide +kernel
theorem dX7_size_26 : decode cX7_size 26 = .ok (.iload_n 2, 1) := by decide +kernel
theorem dX7_size_27 : decode cX7_size 27 = .ok (.invokevirtual 217, 3) := by decide +kernel
theorem dX7_size_30 : decode cX7_size 30 = .ok (.iload_n 1, 1) := by decide +kernel
theorem dX7_size_31 : decode cX7_size 31 = .ok (.imul, 1) := by decide +kernel
theorem dX7_size_32 : decode cX7_size 32 = .ok (.aload_n 0, 1) := by decide +kernel
theorem dX7_size_33 : decode cX7_size 33 = .ok (.iload_n 1, 1) := by decide +kernel
theorem dX7_size_34 : decode cX7_size 34 = .ok (.invokevirtual 217, 3) := by decide +kernel
theorem dX7_size_37 : decode cX7_size 37 = .ok (.iload_n 2, 1) := by decide +kernel
theorem dX7_size_38 : decode cX7_size 38 = .ok (.imul, 1) := by decide +kernel
theorem dX7_size_39 : decode cX7_size 39 = .ok (.if_icmp .ge 7, 3) := by decide +kernel
theorem dX7_size_42 : decode cX7_size 42 = .ok (.iload_n 2, 1) := by decide +kernel
theorem dX7_size_43 : decode cX7_size 43 = .ok (.goto 4, 3) := by decide +kernel
theorem dX7_size_46 : decode cX7_size 46 = .ok (.iload_n 1, 1) := by decide +kernel
theorem dX7_size_47 : decode cX7_size 47 = .ok (.istore_n 1, 1) := by decide +kernel
theorem dX7_size_48 : decode cX7_size 48 = .ok (.iinc 2 1, 3) := by decide +kernel
theorem dX7_size_51 : decode cX7_size 51 = .ok (.goto (-32), 3) := by decide +kernel
theorem dX7_size_54 : decode cX7_size 54 = .ok (.iload_n 1, 1) := by decide +kernel
theorem dX7_size_55 : decode cX7_size 55 = .ok (.ireturn, 1) := by decide +kernel
theorem dX7_book_0 : decode cX7_book 0 = .ok (.aload_n 0, 1) := by decide +kernel
theorem dX7_book_1 : decode cX7_book 1 = .ok (.iconst 0, 1) := by decide +kernel
theorem dX7_book_2 : decode cX7_book 2 = .ok (.putfield 65, 3) := by decide +kernel
theorem dX7_book_5 : decode cX7_book 5 = .ok (.aload_n 0, 1) := by decide +kernel
theorem dX7_book_6 : decode cX7_book 6 = .ok (.iload_n 1, 1) := by decide +kernel
theorem dX7_book_7 : decode cX7_book 7 = .ok (.invokevirtual 230, 3) := by decide +kernel
theorem dX7_book_10 : decode cX7_book 10 = .ok (.ifCond .eq 15, 3) := by decide +kernel
theorem dX7_book_13 : decode cX7_book 13 = .ok (.iload_n 2, 1) := by decide +kernel
theorem dX7_book_14 : decode cX7_book 14 = .ok (.i2l, 1) := by decide +kernel
theorem dX7_book_15 : decode cX7_book 15 = .ok (.lconst 1, 1) := by decide +kernel
theorem dX7_book_16 : decode cX7_book 16 = .ok (.ldc2_w 260, 3) := by decide +kernel
theorem dX7_book_19 : decode cX7_book 19 = .ok (.invokestatic 75, 3) := by decide +kernel
theorem dX7_book_22 : decode cX7_book 22 = .ok (.ifCond .ne 6, 3) := by decide +kernel
theorem dX7_book_25 : decode cX7_book 25 = .ok (.ldc 85, 2) := by decide +kernel
theorem dX7_book_27 : decode cX7_book 27 = .ok (.ireturn, 1) := by decide +kernel
theorem dX7_book_28 : decode cX7_book 28 = .ok (.aload_n 0, 1) := by decide +kernel
theorem dX7_book_29 : decode cX7_book 29 = .ok (.invokevirtual 227, 3) := by decide +kernel
theorem dX7_book_32 : decode cX7_book 32 = .ok (.aload_n 0, 1) := by decide +kernel
theorem dX7_book_33 : decode cX7_book 33 = .ok (.iconst 1, 1) := by decide +kernel
theorem dX7_book_34 : decode cX7_book 34 = .ok (.putfield 198, 3) := by decide +kernel
theorem dX7_book_37 : decode cX7_book 37 = .ok (.iconst 0, 1) := by decide +kernel
theorem dX7_book_38 : decode cX7_book 38 = .ok (.istore_n 3, 1) := by decide +kernel
theorem dX7_book_39 : decode cX7_book 39 = .ok (.iload_n 3, 1) := by decide +kernel
theorem dX7_book_40 : decode cX7_book 40 = .ok (.bipush 7, 2) := by decide +kernel
theorem dX7_book_42 : decode cX7_book 42 = .ok (.if_icmp .ge 16, 3) := by decide +kernel
theorem dX7_book_45 : decode cX7_book 45 = .ok (.aload_n 0, 1) := by decide +kernel
theorem dX7_book_46 : decode cX7_book 46 = .ok (.getfield 52, 3) := by decide +kernel
theorem dX7_book_49 : decode cX7_book 49 = .ok (.iload_n 3, 1) := by decide +kernel
theorem dX7_book_50 : decode cX7_book 50 = .ok (.iconst 0, 1) := by decide +kernel
theorem dX7_book_51 : decode cX7_book 51 = .ok (.iastore, 1) := by decide +kernel
theorem dX7_book_52 : decode cX7_book 52 = .ok (.iinc 3 1, 3) := by decide +kernel
theorem dX7_book_55 : decode cX7_book 55 = .ok (.goto (-16), 3) := by decide +kernel
theorem dX7_book_58 : decode cX7_book 58 = .ok (.iconst 0, 1) := by decide +kernel
theorem dX7_book_59 : decode cX7_book 59 = .ok (.istore_n 3, 1) := by decide +kernel
theorem dX7_book_60 : decode cX7_book 60 = .ok (.iload_n 3, 1) := by decide +kernel
theorem dX7_book_61 : decode cX7_book 61 = .ok (.iload_n 2, 1) := by decide +kernel
theorem dX7_book_62 : decode cX7_book 62 = .ok (.if_icmp .ge 13, 3) := by decide +kernel
theorem dX7_book_65 : decode cX7_book 65 = .ok (.aload_n 0, 1) := by decide +kernel
theorem dX7_book_66 : decode cX7_book 66 = .ok (.invokevirtual 238, 3) := by decide +kernel
theorem dX7_book_69 : decode cX7_book 69 = .ok (.iinc 3 1, 3) := by decide +kernel
theorem dX7_book_72 : decode cX7_book 72 = .ok (.goto (-12), 3) := by decide +kernel
theorem dX7_book_75 : decode cX7_book 75 = .ok (.aload_n 0, 1) := by decide +kernel
theorem dX7_book_76 : decode cX7_book 76 = .ok (.getfield 52, 3) := by decide +kernel
theorem dX7_book_79 : decode cX7_book 79 = .ok (.iload_n 1, 1) := by decide +kernel
theorem dX7_book_80 : decode cX7_book 80 = .ok (.iaload, 1) := by decide +kernel
theorem dX7_book_81 : decode cX7_book 81 = .ok (.ireturn, 1) := by decide +kernel
theorem dX7_ford_0 : decode cX7_ford 0 = .ok (.aload_n 0, 1) := by decide +kernel
theorem dX7_ford_1 : decode cX7_ford 1 = .ok (.iconst 0, 1) := by decide +kernel
theorem dX7_ford_2 : decode cX7_ford 2 = .ok (.putfield 65, 3) := by decide +kernel
theorem dX7_ford_5 : decode cX7_ford 5 = .ok (.aload_n 0, 1) := by decide +kernel
theorem dX7_ford_6 : decode cX7_ford 6 = .ok (.iload_n 1, 1) := by decide +kernel
theorem dX7_ford_7 : decode cX7_ford 7 = .ok (.invokevirtual 230, 3) := by decide +kernel
theorem dX7_ford_10 : decode cX7_ford 10 = .ok (.ifCond .eq 38, 3) := by decide +kernel
theorem dX7_ford_13 : decode cX7_ford 13 = .ok (.iload_n 2, 1) := by decide +kernel
theorem dX7_ford_14 : decode cX7_ford 14 = .ok (.i2l, 1) := by decide +kernel
theorem dX7_ford_15 : decode cX7_ford 15 = .ok (.lconst 0, 1) := by decide +kernel
theorem dX7_ford_16 : decode cX7_ford 16 = .ok (.ldc2_w 262, 3) := by decide +kernel
theorem dX7_ford_19 : decode cX7_ford 19 = .ok (.invokestatic 75, 3) := by decide +kernel
theorem dX7_ford_22 : decode cX7_ford 22 = .ok (.ifCond .eq 26, 3) := by decide +kernel
theorem dX7_ford_25 : decode cX7_ford 25 = .ok (.iload_n 3, 1) := by decide +kernel
theorem dX7_ford_26 : decode cX7_ford 26 = .ok (.i2l, 1) := by decide +kernel
theorem dX7_ford_27 : decode cX7_ford 27 = .ok (.lconst 0, 1) := by decide +kernel
theorem dX7_ford_28 : decode cX7_ford 28 = .ok (.ldc2_w 264, 3) := by decide +kernel
theorem dX7_ford_31 : decode cX7_ford 31 = .ok (.invokestatic 75, 3) := by decide +kernel
theorem dX7_ford_34 : decode cX7_ford 34 = .ok (.ifCond .eq 14, 3) := by decide +kernel
theorem dX7_ford_37 : decode cX7_ford 37 = .ok (.iload 4, 2) := by decide +kernel
theorem dX7_ford_39 : decode cX7_ford 39 = .ok (.i2l, 1) := by decide +kernel
theorem dX7_ford_40 : decode cX7_ford 40 = .ok (.lconst 0, 1) := by decide +kernel
theorem dX7_ford_41 : decode cX7_ford 41 = .ok (.lconst 1, 1) := by decide +kernel
theorem dX7_ford_42 : decode cX7_ford 42 = .ok (.invokestatic 75, 3) := by decide +kernel
theorem dX7_ford_45 : decode cX7_ford 45 = .ok (.ifCond .ne 6, 3) := by decide +kernel
theorem dX7_ford_48 : decode cX7_ford 48 = .ok (.ldc 85, 2) := by decide +kernel
theorem dX7_ford_50 : decode cX7_ford 50 = .ok (.ireturn, 1) := by decide +kernel
theorem dX7_ford_51 : decode cX7_ford 51 = .ok (.aload_n 0, 1) := by decide +kernel
theorem dX7_ford_52 : decode cX7_ford 52 = .ok (.iconst 1, 1) := by decide +kernel
theorem dX7_ford_53 : decode cX7_ford 53 = .ok (.invokevirtual 217, 3) := by decide +kernel
theorem dX7_ford_56 : decode cX7_ford 56 = .ok (.istore 5, 2) := by decide +kernel
theorem dX7_ford_58 : decode cX7_ford 58 = .ok (.iconst 1, 1) := by decide +kernel
theorem dX7_ford_59 : decode cX7_ford 59 = .ok (.istore 6, 2) := by decide +kernel
theorem dX7_ford_61 : decode cX7_ford 61 = .ok (.iconst 0, 1) := by decide +kernel
theorem dX7_ford_62 : decode cX7_ford 62 = .ok (.istore 7, 2) := by decide +kernel
theorem dX7_ford_64 : decode cX7_ford 64 = .ok (.iload 7, 2) := by decide +kernel
theorem dX7_ford_66 : decode cX7_ford 66 = .ok (.iload_n 3, 1) := by decide +kernel
theorem dX7_ford_67 : decode cX7_ford 67 = .ok (.if_icmp .ge 63, 3) := by decide +kernel
theorem dX7_ford_70 : decode cX7_ford 70 = .ok (.iload 6, 2) := by decide +kernel
theorem dX7_ford_72 : decode cX7_ford 72 = .ok (.bipush 100, 2) := by decide +kernel
theorem dX7_ford_74 : decode cX7_ford 74 = .ok (.imul, 1) := by decide +kernel
theorem dX7_ford_75 : decode cX7_ford 75 = .ok (.istore 6, 2) := by decide +kernel
theorem dX7_ford_77 : decode cX7_ford 77 = .ok (.aload_n 0, 1) := by decide +kernel
theorem dX7_ford_78 : decode cX7_ford 78 = .ok (.iload_n 1, 1) := by decide +kernel
theorem dX7_ford_79 : decode cX7_ford 79 = .ok (.iconst 2, 1) := by decide +kernel
theorem dX7_ford_80 : decode cX7_ford 80 = .ok (.invokevirtual 201, 3) := by decide +kernel
theorem dX7_ford_83 : decode cX7_ford 83 = .ok (.iload 6, 2) := by decide +kernel
theorem dX7_ford_85 : decode cX7_ford 85 = .ok (.imul, 1) := by decide +kernel
theorem dX7_ford_86 : decode cX7_ford 86 = .ok (.bipush 100, 2) := by decide +kernel
theorem dX7_ford_88 : decode cX7_ford 88 = .ok (.iload_n 2, 1) := by decide +kernel
theorem dX7_ford_89 : decode cX7_ford 89 = .ok (.isub, 1) := by decide +kernel
theorem dX7_ford_90 : decode cX7_ford 90 = .ok (.iload 5, 2) := by decide +kernel
theorem dX7_ford_92 : decode cX7_ford 92 = .ok (.imul, 1) := by decide +kernel
theorem dX7_ford_93 : decode cX7_ford 93 = .ok (.iadd, 1) := by decide +kernel
theorem dX7_ford_94 : decode cX7_ford 94 = .ok (.istore 8, 2) := by decide +kernel
theorem dX7_ford_96 : decode cX7_ford 96 = .ok (.aload_n 0, 1) := by decide +kernel
theorem dX7_ford_97 : decode cX7_ford 97 = .ok (.iconst 1, 1) := by decide +kernel
theorem dX7_ford_98 : decode cX7_ford 98 = .ok (.invokevirtual 217, 3) := by decide +kernel
theorem dX7_ford_101 : decode cX7_ford 101 = .ok (.iload 6, 2) := by decide +kernel
theorem dX7_ford_103 : decode cX7_ford 103 = .ok (.imul, 1) := by decide +kernel
theorem dX7_ford_104 : decode cX7_ford 104 = .ok (.iload 8, 2) := by decide +kernel
theorem dX7_ford_106 : decode cX7_ford 106 = .ok (.if_icmp .ge 14, 3) := by decide +kernel
theorem dX7_ford_109 : decode cX7_ford 109 = .ok (.aload_n 0, 1) := by decide +kernel
theorem dX7_ford_110 : decode cX7_ford 110 = .ok (.iconst 1, 1) := by decide +kernel
theorem dX7_ford_111 : decode cX7_ford 111 = .ok (.invokevirtual 217, 3) := by decide +kernel
theorem dX7_ford_114 : decode cX7_ford 114 = .ok (.iload 6, 2) := by decide +kernel
theorem dX7_ford_116 : decode cX7_ford 116 = .ok (.imul, 1) := by decide +kernel
theorem dX7_ford_117 : decode cX7_ford 117 = .ok (.goto 5, 3) := by decide +kernel
theorem dX7_ford_120 : decode cX7_ford 120 = .ok (.iload 8, 2) := by decide +kernel
theorem dX7_ford_122 : decode cX7_ford 122 = .ok (.istore 5, 2) := by decide +kernel
theorem dX7_ford_124 : decode cX7_ford 124 = .ok (.iinc 7 1, 3) := by decide +kernel
theorem dX7_ford_127 : decode cX7_ford 127 = .ok (.goto (-63), 3) := by decide +kernel
theorem dX7_ford_130 : decode cX7_ford 130 = .ok (.iload 5, 2) := by decide +kernel
theorem dX7_ford_132 : decode cX7_ford 132 = .ok (.istore 7, 2) := by decide +kernel
theorem dX7_ford_134 : decode cX7_ford 134 = .ok (.iload 6, 2) := by decide +kernel
theorem dX7_ford_136 : decode cX7_ford 136 = .ok (.istore 8, 2) := by decide +kernel
theorem dX7_ford_138 : decode cX7_ford 138 = .ok (.iload 8, 2) := by decide +kernel
theorem dX7_ford_140 : decode cX7_ford 140 = .ok (.ifCond .eq 21, 3) := by decide +kernel
theorem dX7_ford_143 : decode cX7_ford 143 = .ok (.iload 7, 2) := by decide +kernel
theorem dX7_ford_145 : decode cX7_ford 145 = .ok (.iload 8, 2) := by decide +kernel
theorem dX7_ford_147 : decode cX7_ford 147 = .ok (.irem, 1) := by decide +kernel
theorem dX7_ford_148 : decode cX7_ford 148 = .ok (.istore 9, 2) := by decide +kernel
theorem dX7_ford_150 : decode cX7_ford 150 = .ok (.iload 8, 2) := by decide +kernel
theorem dX7_ford_152 : decode cX7_ford 152 = .ok (.istore 7, 2) := by decide +kernel
theorem dX7_ford_154 : decode cX7_ford 154 = .ok (.iload 9, 2) := by decide +kernel
theorem dX7_ford_156 : decode cX7_ford 156 = .ok (.istore 8, 2) := by decide +kernel
theorem dX7_ford_158 : decode cX7_ford 158 = .ok (.goto (-20), 3) := by decide +kernel
theorem dX7_ford_161 : decode cX7_ford 161 = .ok (.iload 4, 2) := by decide +kernel
theorem dX7_ford_163 : decode cX7_ford 163 = .ok (.ifCond .ne 8, 3) := by decide +kernel
theorem dX7_ford_166 : decode cX7_ford 166 = .ok (.iload 5, 2) := by decide +kernel
theorem dX7_ford_168 : decode cX7_ford 168 = .ok (.goto 5, 3) := by decide +kernel
theorem dX7_ford_171 : decode cX7_ford 171 = .ok (.iload 6, 2) := by decide +kernel
theorem dX7_ford_173 : decode cX7_ford 173 = .ok (.iload 7, 2) := by decide +kernel
theorem dX7_ford_175 : decode cX7_ford 175 = .ok (.idiv, 1) := by decide +kernel
theorem dX7_ford_176 : decode cX7_ford 176 = .ok (.ireturn, 1) := by decide +kernel
theorem dX7_goat_0 : decode cX7_goat 0 = .ok (.aload_n 0, 1) := by decide +kernel
theorem dX7_goat_1 : decode cX7_goat 1 = .ok (.iconst 0, 1) := by decide +kernel
theorem dX7_goat_2 : decode cX7_goat 2 = .ok (.putfield 65, 3) := by decide +kernel
theorem dX7_goat_5 : decode cX7_goat 5 = .ok (.aload_n 0, 1) := by decide +kernel
theorem dX7_goat_6 : decode cX7_goat 6 = .ok (.iload_n 1, 1) := by decide +kernel
theorem dX7_goat_7 : decode cX7_goat 7 = .ok (.invokevirtual 230, 3) := by decide +kernel
theorem dX7_goat_10 : decode cX7_goat 10 = .ok (.ifCond .eq 10, 3) := by decide +kernel
theorem dX7_goat_13 : decode cX7_goat 13 = .ok (.iload_n 2, 1) := by decide +kernel
theorem dX7_goat_14 : decode cX7_goat 14 = .ok (.invokestatic 251, 3) := by decide +kernel
theorem dX7_goat_17 : decode cX7_goat 17 = .ok (.ifCond .ne 6, 3) := by decide +kernel
theorem dX7_goat_20 : decode cX7_goat 20 = .ok (.ldc 85, 2) := by decide +kernel
theorem dX7_goat_22 : decode cX7_goat 22 = .ok (.ireturn, 1) := by decide +kernel
theorem dX7_goat_23 : decode cX7_goat 23 = .ok (.aload_n 0, 1) := by decide +kernel
theorem dX7_goat_24 : decode cX7_goat 24 = .ok (.invokevirtual 227, 3) := by decide +kernel
theorem dX7_goat_27 : decode cX7_goat 27 = .ok (.aload_n 0, 1) := by decide +kernel
theorem dX7_goat_28 : decode cX7_goat 28 = .ok (.invokevirtual 238, 3) := by decide +kernel
theorem dX7_goat_31 : decode cX7_goat 31 = .ok (.aload_n 0, 1) := by decide +kernel
theorem dX7_goat_32 : decode cX7_goat 32 = .ok (.iload_n 1, 1) := by decide +kernel
theorem dX7_goat_33 : decode cX7_goat 33 = .ok (.invokevirtual 235, 3) := by decide +kernel
theorem dX7_goat_36 : decode cX7_goat 36 = .ok (.istore_n 3, 1) := by decide +kernel
theorem dX7_goat_37 : decode cX7_goat 37 = .ok (.aload_n 0, 1) := by decide +kernel
theorem dX7_goat_38 : decode cX7_goat 38 = .ok (.getfield 195, 3) := by decide +kernel
theorem dX7_goat_41 : decode cX7_goat 41 = .ok (.istore 4, 2) := by decide +kernel
theorem dX7_goat_43 : decode cX7_goat 43 = .ok (.aload_n 0, 1) := by decide +kernel
theorem dX7_goat_44 : decode cX7_goat 44 = .ok (.dup, 1) := by decide +kernel
theorem dX7_goat_45 : decode cX7_goat 45 = .ok (.getfield 195, 3) := by decide +kernel
theorem dX7_goat_48 : decode cX7_goat 48 = .ok (.iconst 1, 1) := by decide +kernel
theorem dX7_goat_49 : decode cX7_goat 49 = .ok (.iadd, 1) := by decide +kernel
theorem dX7_goat_50 : decode cX7_goat 50 = .ok (.putfield 195, 3) := by decide +kernel
theorem dX7_goat_53 : decode cX7_goat 53 = .ok (.aload_n 0, 1) := by decide +kernel
theorem dX7_goat_54 : decode cX7_goat 54 = .ok (.getfield 31, 3) := by decide +kernel
theorem dX7_goat_57 : decode cX7_goat 57 = .ok (.iload 4, 2) := by decide +kernel
theorem dX7_goat_59 : decode cX7_goat 59 = .ok (.iconst 5, 1) := by decide +kernel
theorem dX7_goat_60 : decode cX7_goat 60 = .ok (.iastore, 1) := by decide +kernel
theorem dX7_goat_61 : decode cX7_goat 61 = .ok (.aload_n 0, 1) := by decide +kernel
theorem dX7_goat_62 : decode cX7_goat 62 = .ok (.getfield 34, 3) := by decide +kernel
theorem dX7_goat_65 : decode cX7_goat 65 = .ok (.iload 4, 2) := by decide +kernel
theorem dX7_goat_67 : decode cX7_goat 67 = .ok (.iload_n 2, 1) := by decide +kernel
theorem dX7_goat_68 : decode cX7_goat 68 = .ok (.iastore, 1) := by decide +kernel
theorem dX7_goat_69 : decode cX7_goat 69 = .ok (.aload_n 0, 1) := by decide +kernel
theorem dX7_goat_70 : decode cX7_goat 70 = .ok (.getfield 37, 3) := by decide +kernel
theorem dX7_goat_73 : decode cX7_goat 73 = .ok (.iload 4, 2) := by decide +kernel
theorem dX7_goat_75 : decode cX7_goat 75 = .ok (.iconst 0, 1) := by decide +kernel
theorem dX7_goat_76 : decode cX7_goat 76 = .ok (.iastore, 1) := by decide +kernel
theorem dX7_goat_77 : decode cX7_goat 77 = .ok (.aload_n 0, 1) := by decide +kernel
theorem dX7_goat_78 : decode cX7_goat 78 = .ok (.getfield 40, 3) := by decide +kernel
theorem dX7_goat_81 : decode cX7_goat 81 = .ok (.iload 4, 2) := by decide +kernel
theorem dX7_goat_83 : decode cX7_goat 83 = .ok (.iconst 0, 1) := by decide +kernel
theorem dX7_goat_84 : decode cX7_goat 84 = .ok (.iastore, 1) := by decide +kernel
theorem dX7_goat_85 : decode cX7_goat 85 = .ok (.aload_n 0, 1) := by decide +kernel
theorem dX7_goat_86 : decode cX7_goat 86 = .ok (.invokevirtual 238, 3) := by decide +kernel
theorem dX7_goat_89 : decode cX7_goat 89 = .ok (.aload_n 0, 1) := by decide +kernel
theorem dX7_goat_90 : decode cX7_goat 90 = .ok (.iload_n 1, 1) := by decide +kernel
theorem dX7_goat_91 : decode cX7_goat 91 = .ok (.invokevirtual 235, 3) := by decide +kernel
theorem dX7_goat_94 : decode cX7_goat 94 = .ok (.aload_n 0, 1) := by decide +kernel
theorem dX7_goat_95 : decode cX7_goat 95 = .ok (.getfield 46, 3) := by decide +kernel
theorem dX7_goat_98 : decode cX7_goat 98 = .ok (.iload 4, 2) := by decide +kernel
theorem dX7_goat_100 : decode cX7_goat 100 = .ok (.iaload, 1) := by decide +kernel
theorem dX7_goat_101 : decode cX7_goat 101 = .ok (.iadd, 1) := by decide +kernel
theorem dX7_goat_102 : decode cX7_goat 102 = .ok (.iload_n 3, 1) := by decide +kernel
theorem dX7_goat_103 : decode cX7_goat 103 = .ok (.isub, 1) := by decide +kernel
theorem dX7_goat_104 : decode cX7_goat 104 = .ok (.ireturn, 1) := by decide +kernel
theorem dX7_image_0 : decode cX7_image 0 = .ok (.aload_n 0, 1) := by decide +kernel
theorem dX7_image_1 : decode cX7_image 1 = .ok (.iconst 0, 1) := by decide +kernel
theorem dX7_image_2 : decode cX7_image 2 = .ok (.putfield 65, 3) := by decide +kernel
theorem dX7_image_5 : decode cX7_image 5 = .ok (.iload_n 1, 1) := by decide +kernel
theorem dX7_image_6 : decode cX7_image 6 = .ok (.i2l, 1) := by decide +kernel
theorem dX7_image_7 : decode cX7_image 7 = .ok (.lconst 0, 1) := by decide +kernel
theorem dX7_image_8 : decode cX7_image 8 = .ok (.lconst 1, 1) := by decide +kernel
theorem dX7_image_9 : decode cX7_image 9 = .ok (.invokestatic 75, 3) := by decide +kernel
theorem dX7_image_12 : decode cX7_image 12 = .ok (.ifCond .ne 6, 3) := by decide +kernel
theorem dX7_image_15 : decode cX7_image 15 = .ok (.ldc 85, 2) := by decide +kernel
theorem dX7_image_17 : decode cX7_image 17 = .ok (.ireturn, 1) := by decide +kernel
theorem dX7_image_18 : decode cX7_image 18 = .ok (.aload_n 0, 1) := by decide +kernel
theorem dX7_image_19 : decode cX7_image 19 = .ok (.getfield 186, 3) := by decide +kernel
theorem dX7_image_22 : decode cX7_image 22 = .ok (.ifCond .ne 6, 3) := by decide +kernel
theorem dX7_image_25 : decode cX7_image 25 = .ok (.ldc 223, 2) := by decide +kernel
theorem dX7_image_27 : decode cX7_image 27 = .ok (.ireturn, 1) := by decide +kernel
theorem dX7_image_28 : decode cX7_image 28 = .ok (.iconst 0, 1) := by decide +kernel
theorem dX7_image_29 : decode cX7_image 29 = .ok (.istore_n 2, 1) := by decide +kernel
theorem dX7_image_30 : decode cX7_image 30 = .ok (.iload_n 2, 1) := by decide +kernel
theorem dX7_image_31 : decode cX7_image 31 = .ok (.bipush 44, 2) := by decide +kernel
theorem dX7_image_33 : decode cX7_image 33 = .ok (.if_icmp .ge 26, 3) := by decide +kernel
theorem dX7_image_36 : decode cX7_image 36 = .ok (.aload_n 0, 1) := by decide +kernel
theorem dX7_image_37 : decode cX7_image 37 = .ok (.getfield 59, 3) := by decide +kernel
theorem dX7_image_40 : decode cX7_image 40 = .ok (.bipush 44, 2) := by decide +kernel
theorem dX7_image_42 : decode cX7_image 42 = .ok (.iload_n 1, 1) := by decide +kernel
theorem dX7_image_43 : decode cX7_image 43 = .ok (.imul, 1) := by decide +kernel
theorem dX7_image_44 : decode cX7_image 44 = .ok (.iload_n 2, 1) := by decide +kernel
theorem dX7_image_45 : decode cX7_image 45 = .ok (.iadd, 1) := by decide +kernel
theorem dX7_image_46 : decode cX7_image 46 = .ok (.aload_n 0, 1) := by decide +kernel
theorem dX7_image_47 : decode cX7_image 47 = .ok (.getfield 19, 3) := by decide +kernel
theorem dX7_image_50 : decode cX7_image 50 = .ok (.iload_n 2, 1) := by decide +kernel
theorem dX7_image_51 : decode cX7_image 51 = .ok (.iaload, 1) := by decide +kernel
theorem dX7_image_52 : decode cX7_image 52 = .ok (.iastore, 1) := by decide +kernel
theorem dX7_image_53 : decode cX7_image 53 = .ok (.iinc 2 1, 3) := by decide +kernel
theorem dX7_image_56 : decode cX7_image 56 = .ok (.goto (-26), 3) := by decide +kernel
theorem dX7_image_59 : decode cX7_image 59 = .ok (.aload_n 0, 1) := by decide +kernel
theorem dX7_image_60 : decode cX7_image 60 = .ok (.getfield 55, 3) := by decide +kernel
theorem dX7_image_63 : decode cX7_image 63 = .ok (.iload_n 1, 1) := by decide +kernel
theorem dX7_image_64 : decode cX7_image 64 = .ok (.iconst 1, 1) := by decide +kernel
theorem dX7_image_65 : decode cX7_image 65 = .ok (.bastore, 1) := by decide +kernel
theorem dX7_image_66 : decode cX7_image 66 = .ok (.iconst 1, 1) := by decide +kernel
theorem dX7_image_67 : decode cX7_image 67 = .ok (.ireturn, 1) := by decide +kernel
theorem dX7_restore_0 : decode cX7_restore 0 = .ok (.aload_n 0, 1) := by decide +kernel
theorem dX7_restore_1 : decode cX7_restore 1 = .ok (.iconst 0, 1) := by decide +kernel
theorem dX7_restore_2 : decode cX7_restore 2 = .ok (.putfield 65, 3) := by decide +kernel
theorem dX7_restore_5 : decode cX7_restore 5 = .ok (.iload_n 1, 1) := by decide +kernel
theorem dX7_restore_6 : decode cX7_restore 6 = .ok (.i2l, 1) := by decide +kernel
theorem dX7_restore_7 : decode cX7_restore 7 = .ok (.lconst 0, 1) := by decide +kernel
theorem dX7_restore_8 : decode cX7_restore 8 = .ok (.lconst 1, 1) := by decide +kernel
theorem dX7_restore_9 : decode cX7_restore 9 = .ok (.invokestatic 75, 3) := by decide +kernel
theorem dX7_restore_12 : decode cX7_restore 12 = .ok (.ifCond .ne 6, 3) := by decide +kernel
theorem dX7_restore_15 : decode cX7_restore 15 = .ok (.ldc 85, 2) := by decide +kernel
theorem dX7_restore_17 : decode cX7_restore 17 = .ok (.ireturn, 1) := by decide +kernel
theorem dX7_restore_18 : decode cX7_restore 18 = .ok (.aload_n 0, 1) := by decide +kernel
theorem dX7_restore_19 : decode cX7_restore 19 = .ok (.getfield 55, 3) := by decide +kernel
theorem dX7_restore_22 : decode cX7_restore 22 = .ok (.iload_n 1, 1) := by decide +kernel
theorem dX7_restore_23 : decode cX7_restore 23 = .ok (.baload, 1) := by decide +kernel
theorem dX7_restore_24 : decode cX7_restore 24 = .ok (.ifCond .ne 6, 3) := by decide +kernel
theorem dX7_restore_27 : decode cX7_restore 27 = .ok (.ldc 223, 2) := by decide +kernel
theorem dX7_restore_29 : decode cX7_restore 29 = .ok (.ireturn, 1) := by decide +kernel
theorem dX7_restore_30 : decode cX7_restore 30 = .ok (.iconst 0, 1) := by decide +kernel
theorem dX7_restore_31 : decode cX7_restore 31 = .ok (.istore_n 2, 1) := by decide +kernel
theorem dX7_restore_32 : decode cX7_restore 32 = .ok (.iload_n 2, 1) := by decide +kernel
theorem dX7_restore_33 : decode cX7_restore 33 = .ok (.bipush 44, 2) := by decide +kernel
theorem dX7_restore_35 : decode cX7_restore 35 = .ok (.if_icmp .ge 26, 3) := by decide +kernel
theorem dX7_restore_38 : decode cX7_restore 38 = .ok (.aload_n 0, 1) := by decide +kernel
theorem dX7_restore_39 : decode cX7_restore 39 = .ok (.getfield 19, 3) := by decide +kernel
theorem dX7_restore_42 : decode cX7_restore 42 = .ok (.iload_n 2, 1) := by decide +kernel
theorem dX7_restore_43 : decode cX7_restore 43 = .ok (.aload_n 0, 1) := by decide +kernel
theorem dX7_restore_44 : decode cX7_restore 44 = .ok (.getfield 59, 3) := by decide +kernel
theorem dX7_restore_47 : decode cX7_restore 47 = .ok (.bipush 44, 2) := by decide +kernel
theorem dX7_restore_49 : decode cX7_restore 49 = .ok (.iload_n 1, 1) := by decide +kernel
theorem dX7_restore_50 : decode cX7_restore 50 = .ok (.imul, 1) := by decide +kernel
theorem dX7_restore_51 : decode cX7_restore 51 = .ok (.iload_n 2, 1) := by decide +kernel
theorem dX7_restore_52 : decode cX7_restore 52 = .ok (.iadd, 1) := by decide +kernel
theorem dX7_restore_53 : decode cX7_restore 53 = .ok (.iaload, 1) := by decide +kernel
theorem dX7_restore_54 : decode cX7_restore 54 = .ok (.iastore, 1) := by decide +kernel
theorem dX7_restore_55 : decode cX7_restore 55 = .ok (.iinc 2 1, 3) := by decide +kernel
theorem dX7_restore_58 : decode cX7_restore 58 = .ok (.goto (-26), 3) := by decide +kernel
theorem dX7_restore_61 : decode cX7_restore 61 = .ok (.aload_n 0, 1) := by decide +kernel
theorem dX7_restore_62 : decode cX7_restore 62 = .ok (.iconst 0, 1) := by decide +kernel
theorem dX7_restore_63 : decode cX7_restore 63 = .ok (.putfield 190, 3) := by decide +kernel
theorem dX7_restore_66 : decode cX7_restore 66 = .ok (.iconst 1, 1) := by decide +kernel
theorem dX7_restore_67 : decode cX7_restore 67 = .ok (.ireturn, 1) := by decide +kernel
theorem dX7_isOf_0 : decode cX7_isOf 0 = .ok (.iload_n 1, 1) := by decide +kernel
theorem dX7_isOf_1 : decode cX7_isOf 1 = .ok (.ifCond .eq 28, 3) := by decide +kernel
theorem dX7_isOf_4 : decode cX7_isOf 4 = .ok (.iload_n 0, 1) := by decide +kernel
theorem dX7_isOf_5 : decode cX7_isOf 5 = .ok (.iload_n 1, 1) := by decide +kernel
theorem dX7_isOf_6 : decode cX7_isOf 6 = .ok (.if_icmp .eq 23, 3) := by decide +kernel
theorem dX7_isOf_9 : decode cX7_isOf 9 = .ok (.iload_n 1, 1) := by decide +kernel
theorem dX7_isOf_10 : decode cX7_isOf 10 = .ok (.iconst 1, 1) := by decide +kernel
theorem dX7_isOf_11 : decode cX7_isOf 11 = .ok (.if_icmp .ne 8, 3) := by decide +kernel
theorem dX7_isOf_14 : decode cX7_isOf 14 = .ok (.iload_n 0, 1) := by decide +kernel
theorem dX7_isOf_15 : decode cX7_isOf 15 = .ok (.iconst 4, 1) := by decide +kernel
theorem dX7_isOf_16 : decode cX7_isOf 16 = .ok (.if_icmp .lt 13, 3) := by decide +kernel
theorem dX7_isOf_19 : decode cX7_isOf 19 = .ok (.iload_n 1, 1) := by decide +kernel
theorem dX7_isOf_20 : decode cX7_isOf 20 = .ok (.iconst 4, 1) := by decide +kernel
theorem dX7_isOf_21 : decode cX7_isOf 21 = .ok (.if_icmp .ne 12, 3) := by decide +kernel
theorem dX7_isOf_24 : decode cX7_isOf 24 = .ok (.iload_n 0, 1) := by decide +kernel
theorem dX7_isOf_25 : decode cX7_isOf 25 = .ok (.iconst 5, 1) := by decide +kernel
theorem dX7_isOf_26 : decode cX7_isOf 26 = .ok (.if_icmp .ne 7, 3) := by decide +kernel
theorem dX7_isOf_29 : decode cX7_isOf 29 = .ok (.iconst 1, 1) := by decide +kernel
theorem dX7_isOf_30 : decode cX7_isOf 30 = .ok (.goto 4, 3) := by decide +kernel
theorem dX7_isOf_33 : decode cX7_isOf 33 = .ok (.iconst 0, 1) := by decide +kernel
theorem dX7_isOf_34 : decode cX7_isOf 34 = .ok (.ireturn, 1) := by decide +kernel
theorem dX7_kind_0 : decode cX7_kind 0 = .ok (.aload_n 0, 1) := by decide +kernel
theorem dX7_kind_1 : decode cX7_kind 1 = .ok (.iconst 0, 1) := by decide +kernel
theorem dX7_kind_2 : decode cX7_kind 2 = .ok (.putfield 65, 3) := by decide +kernel
theorem dX7_kind_5 : decode cX7_kind 5 = .ok (.aload_n 0, 1) := by decide +kernel
theorem dX7_kind_6 : decode cX7_kind 6 = .ok (.iload_n 1, 1) := by decide +kernel
theorem dX7_kind_7 : decode cX7_kind 7 = .ok (.invokevirtual 230, 3) := by decide +kernel
theorem dX7_kind_10 : decode cX7_kind 10 = .ok (.ifCond .eq 12, 3) := by decide +kernel
theorem dX7_kind_13 : decode cX7_kind 13 = .ok (.aload_n 0, 1) := by decide +kernel
theorem dX7_kind_14 : decode cX7_kind 14 = .ok (.iload_n 1, 1) := by decide +kernel
theorem dX7_kind_15 : decode cX7_kind 15 = .ok (.iconst 0, 1) := by decide +kernel
theorem dX7_kind_16 : decode cX7_kind 16 = .ok (.invokevirtual 201, 3) := by decide +kernel
theorem dX7_kind_19 : decode cX7_kind 19 = .ok (.goto 5, 3) := by decide +kernel
theorem dX7_kind_22 : decode cX7_kind 22 = .ok (.ldc 85, 2) := by decide +kernel
theorem dX7_kind_24 : decode cX7_kind 24 = .ok (.ireturn, 1) := by decide +kernel
theorem dX7_as_0 : decode cX7_as 0 = .ok (.aload_n 0, 1) := by decide +kernel
theorem dX7_as_1 : decode cX7_as 1 = .ok (.iconst 0, 1) := by decide +kernel
theorem dX7_as_2 : decode cX7_as 2 = .ok (.putfield 65, 3) := by decide +kernel
theorem dX7_as_5 : decode cX7_as 5 = .ok (.aload_n 0, 1) := by decide +kernel
theorem dX7_as_6 : decode cX7_as 6 = .ok (.iload_n 1, 1) := by decide +kernel
theorem dX7_as_7 : decode cX7_as 7 = .ok (.invokevirtual 230, 3) := by decide +kernel
theorem dX7_as_10 : decode cX7_as 10 = .ok (.ifCond .eq 15, 3) := by decide +kernel
theorem dX7_as_13 : decode cX7_as 13 = .ok (.iload_n 2, 1) := by decide +kernel
theorem dX7_as_14 : decode cX7_as 14 = .ok (.i2l, 1) := by decide +kernel
theorem dX7_as_15 : decode cX7_as 15 = .ok (.lconst 0, 1) := by decide +kernel
theorem dX7_as_16 : decode cX7_as 16 = .ok (.ldc2_w 233, 3) := by decide +kernel
theorem dX7_as_19 : decode cX7_as 19 = .ok (.invokestatic 75, 3) := by decide +kernel
theorem dX7_as_22 : decode cX7_as 22 = .ok (.ifCond .ne 6, 3) := by decide +kernel
theorem dX7_as_25 : decode cX7_as 25 = .ok (.ldc 85, 2) := by decide +kernel
theorem dX7_as_27 : decode cX7_as 27 = .ok (.ireturn, 1) := by decide +kernel
theorem dX7_as_28 : decode cX7_as 28 = .ok (.aload_n 0, 1) := by decide +kernel
theorem dX7_as_29 : decode cX7_as 29 = .ok (.iconst 0, 1) := by decide +kernel
theorem dX7_as_30 : decode cX7_as 30 = .ok (.putfield 69, 3) := by decide +kernel
theorem dX7_as_33 : decode cX7_as 33 = .ok (.aload_n 0, 1) := by decide +kernel
theorem dX7_as_34 : decode cX7_as 34 = .ok (.iload_n 1, 1) := by decide +kernel
theorem dX7_as_35 : decode cX7_as 35 = .ok (.iconst 0, 1) := by decide +kernel
theorem dX7_as_36 : decode cX7_as 36 = .ok (.invokevirtual 201, 3) := by decide +kernel
theorem dX7_as_39 : decode cX7_as 39 = .ok (.iload_n 2, 1) := by decide +kernel
theorem dX7_as_40 : decode cX7_as 40 = .ok (.invokestatic 266, 3) := by decide +kernel
theorem dX7_as_43 : decode cX7_as 43 = .ok (.ifCond .eq 7, 3) := by decide +kernel
theorem dX7_as_46 : decode cX7_as 46 = .ok (.iload_n 1, 1) := by decide +kernel
theorem dX7_as_47 : decode cX7_as 47 = .ok (.goto 8, 3) := by decide +kernel
theorem dX7_as_50 : decode cX7_as 50 = .ok (.aload_n 0, 1) := by decide +kernel
theorem dX7_as_51 : decode cX7_as 51 = .ok (.iconst 3, 1) := by decide +kernel
theorem dX7_as_52 : decode cX7_as 52 = .ok (.invokevirtual 86, 3) := by decide +kernel
theorem dX7_as_55 : decode cX7_as 55 = .ok (.ireturn, 1) := by decide +kernel
theorem dX7_began_0 : decode cX7_began 0 = .ok (.aload_n 0, 1) := by decide +kernel
theorem dX7_began_1 : decode cX7_began 1 = .ok (.getfield 269, 3) := by decide +kernel
theorem dX7_began_4 : decode cX7_began 4 = .ok (.bipush 16, 2) := by decide +kernel
theorem dX7_began_6 : decode cX7_began 6 = .ok (.if_icmp .ge 23, 3) := by decide +kernel
theorem dX7_began_9 : decode cX7_began 9 = .ok (.aload_n 0, 1) := by decide +kernel
theorem dX7_began_10 : decode cX7_began 10 = .ok (.getfield 62, 3) := by decide +kernel
theorem dX7_began_13 : decode cX7_began 13 = .ok (.aload_n 0, 1) := by decide +kernel
theorem dX7_began_14 : decode cX7_began 14 = .ok (.getfield 269, 3) := by decide +kernel
theorem dX7_began_17 : decode cX7_began 17 = .ok (.iload_n 1, 1) := by decide +kernel
theorem dX7_began_18 : decode cX7_began 18 = .ok (.iastore, 1) := by decide +kernel
theorem dX7_began_19 : decode cX7_began 19 = .ok (.aload_n 0, 1) := by decide +kernel
theorem dX7_began_20 : decode cX7_began 20 = .ok (.dup, 1) := by decide +kernel
theorem dX7_began_21 : decode cX7_began 21 = .ok (.getfield 269, 3) := by decide +kernel
theorem dX7_began_24 : decode cX7_began 24 = .ok (.iconst 1, 1) := by decide +kernel
theorem dX7_began_25 : decode cX7_began 25 = .ok (.iadd, 1) := by decide +kernel
theorem dX7_began_26 : decode cX7_began 26 = .ok (.putfield 269, 3) := by decide +kernel
theorem dX7_began_29 : decode cX7_began 29 = .ok (.return_, 1) := by decide +kernel
theorem dX7_plainSize_0 : decode cX7_plainSize 0 = .ok (.aload_n 0, 1) := by decide +kernel
theorem dX7_plainSize_1 : decode cX7_plainSize 1 = .ok (.bipush 10, 2) := by decide +kernel
theorem dX7_plainSize_3 : decode cX7_plainSize 3 = .ok (.invokevirtual 272, 3) := by decide +kernel
theorem dX7_plainSize_6 : decode cX7_plainSize 6 = .ok (.aload_n 0, 1) := by decide +kernel
theorem dX7_plainSize_7 : decode cX7_plainSize 7 = .ok (.iload_n 1, 1) := by decide +kernel
theorem dX7_plainSize_8 : decode cX7_plainSize 8 = .ok (.iconst 2, 1) := by decide +kernel
theorem dX7_plainSize_9 : decode cX7_plainSize 9 = .ok (.invokevirtual 201, 3) := by decide +kernel
theorem dX7_plainSize_12 : decode cX7_plainSize 12 = .ok (.ireturn, 1) := by decide +kernel
theorem dX7_goSize_0 : decode cX7_goSize 0 = .ok (.aload_n 0, 1) := by decide +kernel
theorem dX7_goSize_1 : decode cX7_goSize 1 = .ok (.iload_n 1, 1) := by decide +kernel
theorem dX7_goSize_2 : decode cX7_goSize 2 = .ok (.iconst 0, 1) := by decide +kernel
theorem dX7_goSize_3 : decode cX7_goSize 3 = .ok (.invokevirtual 201, 3) := by decide +kernel
theorem dX7_goSize_6 : decode cX7_goSize 6 = .ok (.iconst 5, 1) := by decide +kernel
theorem dX7_goSize_7 : decode cX7_goSize 7 = .ok (.if_icmp .ne 9, 3) := by decide +kernel
theorem dX7_goSize_10 : decode cX7_goSize 10 = .ok (.aload_n 0, 1) := by decide +kernel
theorem dX7_goSize_11 : decode cX7_goSize 11 = .ok (.bipush 14, 2) := by decide +kernel
theorem dX7_goSize_13 : decode cX7_goSize 13 = .ok (.invokevirtual 272, 3) := by decide +kernel
theorem dX7_goSize_16 : decode cX7_goSize 16 = .ok (.aload_n 0, 1) := by decide +kernel
theorem dX7_goSize_17 : decode cX7_goSize 17 = .ok (.bipush 13, 2) := by decide +kernel
theorem dX7_goSize_19 : decode cX7_goSize 19 = .ok (.invokevirtual 272, 3) := by decide +kernel
theorem dX7_goSize_22 : decode cX7_goSize 22 = .ok (.aload_n 0, 1) := by decide +kernel
theorem dX7_goSize_23 : decode cX7_goSize 23 = .ok (.iload_n 1, 1) := by decide +kernel
theorem dX7_goSize_24 : decode cX7_goSize 24 = .ok (.invokevirtual 275, 3) := by decide +kernel
theorem dX7_goSize_27 : decode cX7_goSize 27 = .ok (.bipush 100, 2) := by decide +kernel
theorem dX7_goSize_29 : decode cX7_goSize 29 = .ok (.isub, 1) := by decide +kernel
theorem dX7_goSize_30 : decode cX7_goSize 30 = .ok (.istore_n 2, 1) := by decide +kernel
theorem dX7_goSize_31 : decode cX7_goSize 31 = .ok (.aload_n 0, 1) := by decide +kernel
theorem dX7_goSize_32 : decode cX7_goSize 32 = .ok (.iload_n 1, 1) := by decide +kernel
theorem dX7_goSize_33 : decode cX7_goSize 33 = .ok (.iconst 0, 1) := by decide +kernel
theorem dX7_goSize_34 : decode cX7_goSize 34 = .ok (.invokevirtual 201, 3) := by decide +kernel
theorem dX7_goSize_37 : decode cX7_goSize 37 = .ok (.iconst 5, 1) := by decide +kernel
theorem dX7_goSize_38 : decode cX7_goSize 38 = .ok (.if_icmp .ne 9, 3) := by decide +kernel
theorem dX7_goSize_41 : decode cX7_goSize 41 = .ok (.iconst 2, 1) := by decide +kernel
theorem dX7_goSize_42 : decode cX7_goSize 42 = .ok (.iload_n 2, 1) := by decide +kernel
theorem dX7_goSize_43 : decode cX7_goSize 43 = .ok (.imul, 1) := by decide +kernel
theorem dX7_goSize_44 : decode cX7_goSize 44 = .ok (.goto 4, 3) := by decide +kernel
theorem dX7_goSize_47 : decode cX7_goSize 47 = .ok (.iload_n 2, 1) := by decide +kernel
theorem dX7_goSize_48 : decode cX7_goSize 48 = .ok (.ireturn, 1) := by decide +kernel
theorem dX7_markOf_0 : decode cX7_markOf 0 = .ok (.aload_n 0, 1) := by decide +kernel
theorem dX7_markOf_1 : decode cX7_markOf 1 = .ok (.iload_n 1, 1) := by decide +kernel
theorem dX7_markOf_2 : decode cX7_markOf 2 = .ok (.iconst 0, 1) := by decide +kernel
theorem dX7_markOf_3 : decode cX7_markOf 3 = .ok (.invokevirtual 201, 3) := by decide +kernel
theorem dX7_markOf_6 : decode cX7_markOf 6 = .ok (.istore_n 2, 1) := by decide +kernel
theorem dX7_markOf_7 : decode cX7_markOf 7 = .ok (.iload_n 2, 1) := by decide +kernel
theorem dX7_markOf_8 : decode cX7_markOf 8 = .ok (.iconst 4, 1) := by decide +kernel
theorem dX7_markOf_9 : decode cX7_markOf 9 = .ok (.if_icmp .lt 23, 3) := by decide +kernel
theorem dX7_markOf_12 : decode cX7_markOf 12 = .ok (.aload_n 0, 1) := by decide +kernel
theorem dX7_markOf_13 : decode cX7_markOf 13 = .ok (.bipush 23, 2) := by decide +kernel
theorem dX7_markOf_15 : decode cX7_markOf 15 = .ok (.invokevirtual 272, 3) := by decide +kernel
theorem dX7_markOf_18 : decode cX7_markOf 18 = .ok (.aload_n 0, 1) := by decide +kernel
theorem dX7_markOf_19 : decode cX7_markOf 19 = .ok (.bipush 20, 2) := by decide +kernel
theorem dX7_markOf_21 : decode cX7_markOf 21 = .ok (.invokevirtual 272, 3) := by decide +kernel
theorem dX7_markOf_24 : decode cX7_markOf 24 = .ok (.iload_n 1, 1) := by decide +kernel
theorem dX7_markOf_25 : decode cX7_markOf 25 = .ok (.aload_n 0, 1) := by decide +kernel
theorem dX7_markOf_26 : decode cX7_markOf 26 = .ok (.iload_n 1, 1) := by decide +kernel
theorem dX7_markOf_27 : decode cX7_markOf 27 = .ok (.invokevirtual 278, 3) := by decide +kernel
theorem dX7_markOf_30 : decode cX7_markOf 30 = .ok (.isub, 1) := by decide +kernel
theorem dX7_markOf_31 : decode cX7_markOf 31 = .ok (.ireturn, 1) := by decide +kernel
theorem dX7_markOf_32 : decode cX7_markOf 32 = .ok (.iload_n 2, 1) := by decide +kernel
theorem dX7_markOf_33 : decode cX7_markOf 33 = .ok (.iconst 1, 1) := by decide +kernel
theorem dX7_markOf_34 : decode cX7_markOf 34 = .ok (.if_icmp .eq 19, 3) := by decide +kernel
theorem dX7_markOf_37 : decode cX7_markOf 37 = .ok (.aload_n 0, 1) := by decide +kernel
theorem dX7_markOf_38 : decode cX7_markOf 38 = .ok (.iload_n 2, 1) := by decide +kernel
theorem dX7_markOf_39 : decode cX7_markOf 39 = .ok (.iconst 3, 1) := by decide +kernel
theorem dX7_markOf_40 : decode cX7_markOf 40 = .ok (.if_icmp .ne 8, 3) := by decide +kernel
theorem dX7_markOf_43 : decode cX7_markOf 43 = .ok (.bipush 22, 2) := by decide +kernel
theorem dX7_markOf_45 : decode cX7_markOf 45 = .ok (.goto 5, 3) := by decide +kernel
theorem dX7_markOf_48 : decode cX7_markOf 48 = .ok (.bipush 24, 2) := by decide +kernel
theorem dX7_markOf_50 : decode cX7_markOf 50 = .ok (.invokevirtual 272, 3) := by decide +kernel
theorem dX7_markOf_53 : decode cX7_markOf 53 = .ok (.aload_n 0, 1) := by decide +kernel
theorem dX7_markOf_54 : decode cX7_markOf 54 = .ok (.bipush 21, 2) := by decide +kernel
theorem dX7_markOf_56 : decode cX7_markOf 56 = .ok (.invokevirtual 272, 3) := by decide +kernel
theorem dX7_markOf_59 : decode cX7_markOf 59 = .ok (.aload_n 0, 1) := by decide +kernel
theorem dX7_markOf_60 : decode cX7_markOf 60 = .ok (.bipush 20, 2) := by decide +kernel
theorem dX7_markOf_62 : decode cX7_markOf 62 = .ok (.invokevirtual 272, 3) := by decide +kernel
theorem dX7_markOf_65 : decode cX7_markOf 65 = .ok (.iload_n 1, 1) := by decide +kernel
theorem dX7_markOf_66 : decode cX7_markOf 66 = .ok (.aload_n 0, 1) := by decide +kernel
theorem dX7_markOf_67 : decode cX7_markOf 67 = .ok (.iload_n 1, 1) := by decide +kernel
theorem dX7_markOf_68 : decode cX7_markOf 68 = .ok (.iconst 1, 1) := by decide +kernel
theorem dX7_markOf_69 : decode cX7_markOf 69 = .ok (.invokevirtual 201, 3) := by decide +kernel
theorem dX7_markOf_72 : decode cX7_markOf 72 = .ok (.iadd, 1) := by decide +kernel
theorem dX7_markOf_73 : decode cX7_markOf 73 = .ok (.istore_n 3, 1) := by decide +kernel
theorem dX7_markOf_74 : decode cX7_markOf 74 = .ok (.iload_n 2, 1) := by decide +kernel
theorem dX7_markOf_75 : decode cX7_markOf 75 = .ok (.iconst 1, 1) := by decide +kernel
theorem dX7_markOf_76 : decode cX7_markOf 76 = .ok (.if_icmp .ne 7, 3) := by decide +kernel
theorem dX7_markOf_79 : decode cX7_markOf 79 = .ok (.iload_n 3, 1) := by decide +kernel
theorem dX7_markOf_80 : decode cX7_markOf 80 = .ok (.goto 19, 3) := by decide +kernel
theorem dX7_markOf_83 : decode cX7_markOf 83 = .ok (.iload_n 2, 1) := by decide +kernel
theorem dX7_markOf_84 : decode cX7_markOf 84 = .ok (.iconst 3, 1) := by decide +kernel
theorem dX7_markOf_85 : decode cX7_markOf 85 = .ok (.if_icmp .ne 11, 3) := by decide +kernel
theorem dX7_markOf_88 : decode cX7_markOf 88 = .ok (.iload_n 3, 1) := by decide +kernel
theorem dX7_markOf_89 : decode cX7_markOf 89 = .ok (.sipush 1000, 3) := by decide +kernel
theorem dX7_markOf_92 : decode cX7_markOf 92 = .ok (.isub, 1) := by decide +kernel
theorem dX7_markOf_93 : decode cX7_markOf 93 = .ok (.goto 6, 3) := by decide +kernel
theorem dX7_markOf_96 : decode cX7_markOf 96 = .ok (.iconst 2, 1) := by decide +kernel
theorem dX7_markOf_97 : decode cX7_markOf 97 = .ok (.iload_n 3, 1) := by decide +kernel
theorem dX7_markOf_98 : decode cX7_markOf 98 = .ok (.imul, 1) := by decide +kernel
theorem dX7_markOf_99 : decode cX7_markOf 99 = .ok (.ireturn, 1) := by decide +kernel
theorem dX7_sizeOf_0 : decode cX7_sizeOf 0 = .ok (.aload_n 0, 1) := by decide +kernel
theorem dX7_sizeOf_1 : decode cX7_sizeOf 1 = .ok (.iload_n 1, 1) := by decide +kernel
theorem dX7_sizeOf_2 : decode cX7_sizeOf 2 = .ok (.iconst 0, 1) := by decide +kernel
theorem dX7_sizeOf_3 : decode cX7_sizeOf 3 = .ok (.invokevirtual 201, 3) := by decide +kernel
theorem dX7_sizeOf_6 : decode cX7_sizeOf 6 = .ok (.istore_n 2, 1) := by decide +kernel
theorem dX7_sizeOf_7 : decode cX7_sizeOf 7 = .ok (.iload_n 2, 1) := by decide +kernel
theorem dX7_sizeOf_8 : decode cX7_sizeOf 8 = .ok (.iconst 4, 1) := by decide +kernel
theorem dX7_sizeOf_9 : decode cX7_sizeOf 9 = .ok (.if_icmp .lt 9, 3) := by decide +kernel
theorem dX7_sizeOf_12 : decode cX7_sizeOf 12 = .ok (.aload_n 0, 1) := by decide +kernel
theorem dX7_sizeOf_13 : decode cX7_sizeOf 13 = .ok (.iload_n 1, 1) := by decide +kernel
theorem dX7_sizeOf_14 : decode cX7_sizeOf 14 = .ok (.invokevirtual 278, 3) := by decide +kernel
theorem dX7_sizeOf_17 : decode cX7_sizeOf 17 = .ok (.ireturn, 1) := by decide +kernel
theorem dX7_sizeOf_18 : decode cX7_sizeOf 18 = .ok (.iload_n 2, 1) := by decide +kernel
theorem dX7_sizeOf_19 : decode cX7_sizeOf 19 = .ok (.iconst 2, 1) := by decide +kernel
theorem dX7_sizeOf_20 : decode cX7_sizeOf 20 = .ok (.if_icmp .ne 9, 3) := by decide +kernel
theorem dX7_sizeOf_23 : decode cX7_sizeOf 23 = .ok (.aload_n 0, 1) := by decide +kernel
theorem dX7_sizeOf_24 : decode cX7_sizeOf 24 = .ok (.bipush 12, 2) := by decide +kernel
theorem dX7_sizeOf_26 : decode cX7_sizeOf 26 = .ok (.invokevirtual 272, 3) := by decide +kernel
theorem dX7_sizeOf_29 : decode cX7_sizeOf 29 = .ok (.aload_n 0, 1) := by decide +kernel
theorem dX7_sizeOf_30 : decode cX7_sizeOf 30 = .ok (.bipush 11, 2) := by decide +kernel
theorem dX7_sizeOf_32 : decode cX7_sizeOf 32 = .ok (.invokevirtual 272, 3) := by decide +kernel
theorem dX7_sizeOf_35 : decode cX7_sizeOf 35 = .ok (.aload_n 0, 1) := by decide +kernel
theorem dX7_sizeOf_36 : decode cX7_sizeOf 36 = .ok (.iload_n 1, 1) := by decide +kernel
theorem dX7_sizeOf_37 : decode cX7_sizeOf 37 = .ok (.invokevirtual 275, 3) := by decide +kernel
theorem dX7_sizeOf_40 : decode cX7_sizeOf 40 = .ok (.istore_n 3, 1) := by decide +kernel
theorem dX7_sizeOf_41 : decode cX7_sizeOf 41 = .ok (.iload_n 3, 1) := by decide +kernel
theorem dX7_sizeOf_42 : decode cX7_sizeOf 42 = .ok (.aload_n 0, 1) := by decide +kernel
theorem dX7_sizeOf_43 : decode cX7_sizeOf 43 = .ok (.iload_n 1, 1) := by decide +kernel
theorem dX7_sizeOf_44 : decode cX7_sizeOf 44 = .ok (.invokevirtual 281, 3) := by decide +kernel
theorem dX7_sizeOf_47 : decode cX7_sizeOf 47 = .ok (.iadd, 1) := by decide +kernel
theorem dX7_sizeOf_48 : decode cX7_sizeOf 48 = .ok (.istore_n 3, 1) := by decide +kernel
theorem dX7_sizeOf_49 : decode cX7_sizeOf 49 = .ok (.iload_n 2, 1) := by decide +kernel
theorem dX7_sizeOf_50 : decode cX7_sizeOf 50 = .ok (.iconst 2, 1) := by decide +kernel
theorem dX7_sizeOf_51 : decode cX7_sizeOf 51 = .ok (.if_icmp .ne 8, 3) := by decide +kernel
theorem dX7_sizeOf_54 : decode cX7_sizeOf 54 = .ok (.iload_n 3, 1) := by decide +kernel
theorem dX7_sizeOf_55 : decode cX7_sizeOf 55 = .ok (.ineg, 1) := by decide +kernel
theorem dX7_sizeOf_56 : decode cX7_sizeOf 56 = .ok (.goto 4, 3) := by decide +kernel
theorem dX7_sizeOf_59 : decode cX7_sizeOf 59 = .ok (.iload_n 3, 1) := by decide +kernel
theorem dX7_sizeOf_60 : decode cX7_sizeOf 60 = .ok (.ireturn, 1) := by decide +kernel
theorem dX7_ask_0 : decode cX7_ask 0 = .ok (.aload_n 0, 1) := by decide +kernel
theorem dX7_ask_1 : decode cX7_ask 1 = .ok (.iconst 0, 1) := by decide +kernel
theorem dX7_ask_2 : decode cX7_ask 2 = .ok (.putfield 65, 3) := by decide +kernel
theorem dX7_ask_5 : decode cX7_ask 5 = .ok (.aload_n 0, 1) := by decide +kernel
theorem dX7_ask_6 : decode cX7_ask 6 = .ok (.iload_n 1, 1) := by decide +kernel
theorem dX7_ask_7 : decode cX7_ask 7 = .ok (.invokevirtual 230, 3) := by decide +kernel
theorem dX7_ask_10 : decode cX7_ask 10 = .ok (.ifCond .eq 13, 3) := by decide +kernel
theorem dX7_ask_13 : decode cX7_ask 13 = .ok (.iload_n 2, 1) := by decide +kernel
theorem dX7_ask_14 : decode cX7_ask 14 = .ok (.i2l, 1) := by decide +kernel
theorem dX7_ask_15 : decode cX7_ask 15 = .ok (.lconst 0, 1) := by decide +kernel
theorem dX7_ask_16 : decode cX7_ask 16 = .ok (.lconst 1, 1) := by decide +kernel
theorem dX7_ask_17 : decode cX7_ask 17 = .ok (.invokestatic 75, 3) := by decide +kernel
theorem dX7_ask_20 : decode cX7_ask 20 = .ok (.ifCond .ne 6, 3) := by decide +kernel
theorem dX7_ask_23 : decode cX7_ask 23 = .ok (.ldc 85, 2) := by decide +kernel
theorem dX7_ask_25 : decode cX7_ask 25 = .ok (.ireturn, 1) := by decide +kernel
theorem dX7_ask_26 : decode cX7_ask 26 = .ok (.aload_n 0, 1) := by decide +kernel
theorem dX7_ask_27 : decode cX7_ask 27 = .ok (.iconst 0, 1) := by decide +kernel
theorem dX7_ask_28 : decode cX7_ask 28 = .ok (.putfield 269, 3) := by decide +kernel
theorem dX7_ask_31 : decode cX7_ask 31 = .ok (.iload_n 2, 1) := by decide +kernel
theorem dX7_ask_32 : decode cX7_ask 32 = .ok (.ifCond .ne 11, 3) := by decide +kernel
theorem dX7_ask_35 : decode cX7_ask 35 = .ok (.aload_n 0, 1) := by decide +kernel
theorem dX7_ask_36 : decode cX7_ask 36 = .ok (.iload_n 1, 1) := by decide +kernel
theorem dX7_ask_37 : decode cX7_ask 37 = .ok (.invokevirtual 284, 3) := by decide +kernel
theorem dX7_ask_40 : decode cX7_ask 40 = .ok (.goto 8, 3) := by decide +kernel
theorem dX7_ask_43 : decode cX7_ask 43 = .ok (.aload_n 0, 1) := by decide +kernel
theorem dX7_ask_44 : decode cX7_ask 44 = .ok (.iload_n 1, 1) := by decide +kernel
theorem dX7_ask_45 : decode cX7_ask 45 = .ok (.invokevirtual 281, 3) := by decide +kernel
theorem dX7_ask_48 : decode cX7_ask 48 = .ok (.ireturn, 1) := by decide +kernel
theorem dX7_trace_0 : decode cX7_trace 0 = .ok (.aload_n 0, 1) := by decide +kernel
theorem dX7_trace_1 : decode cX7_trace 1 = .ok (.iconst 0, 1) := by decide +kernel
theorem dX7_trace_2 : decode cX7_trace 2 = .ok (.putfield 65, 3) := by decide +kernel
theorem dX7_trace_5 : decode cX7_trace 5 = .ok (.iload_n 1, 1) := by decide +kernel
theorem dX7_trace_6 : decode cX7_trace 6 = .ok (.i2l, 1) := by decide +kernel
theorem dX7_trace_7 : decode cX7_trace 7 = .ok (.lconst 0, 1) := by decide +kernel
theorem dX7_trace_8 : decode cX7_trace 8 = .ok (.aload_n 0, 1) := by decide +kernel
theorem dX7_trace_9 : decode cX7_trace 9 = .ok (.getfield 269, 3) := by decide +kernel
theorem dX7_trace_12 : decode cX7_trace 12 = .ok (.iconst 1, 1) := by decide +kernel
theorem dX7_trace_13 : decode cX7_trace 13 = .ok (.isub, 1) := by decide +kernel
theorem dX7_trace_14 : decode cX7_trace 14 = .ok (.i2l, 1) := by decide +kernel
theorem dX7_trace_15 : decode cX7_trace 15 = .ok (.invokestatic 75, 3) := by decide +kernel
theorem dX7_trace_18 : decode cX7_trace 18 = .ok (.ifCond .eq 12, 3) := by decide +kernel
theorem dX7_trace_21 : decode cX7_trace 21 = .ok (.aload_n 0, 1) := by decide +kernel
theorem dX7_trace_22 : decode cX7_trace 22 = .ok (.getfield 62, 3) := by decide +kernel
theorem dX7_trace_25 : decode cX7_trace 25 = .ok (.iload_n 1, 1) := by decide +kernel
theorem dX7_trace_26 : decode cX7_trace 26 = .ok (.iaload, 1) := by decide +kernel
theorem dX7_trace_27 : decode cX7_trace 27 = .ok (.goto 5, 3) := by decide +kernel
theorem dX7_trace_30 : decode cX7_trace 30 = .ok (.ldc 101, 2) := by decide +kernel
theorem dX7_trace_32 : decode cX7_trace 32 = .ok (.ireturn, 1) := by decide +kernel
theorem dX7_count_0 : decode cX7_count 0 = .ok (.aload_n 0, 1) := by decide +kernel
theorem dX7_count_1 : decode cX7_count 1 = .ok (.iconst 0, 1) := by decide +kernel
theorem dX7_count_2 : decode cX7_count 2 = .ok (.putfield 65, 3) := by decide +kernel
theorem dX7_count_5 : decode cX7_count 5 = .ok (.iconst 0, 1) := by decide +kernel
theorem dX7_count_6 : decode cX7_count 6 = .ok (.istore_n 2, 1) := by decide +kernel
theorem dX7_count_7 : decode cX7_count 7 = .ok (.iload_n 1, 1) := by decide +kernel
theorem dX7_count_8 : decode cX7_count 8 = .ok (.tableswitch 154 0 6 #[44, 77, 84, 91, 144, 91, 149], 44) := by decide +kernel
theorem dX7_count_52 : decode cX7_count 52 = .ok (.iconst 0, 1) := by decide +kernel
theorem dX7_count_53 : decode cX7_count 53 = .ok (.istore_n 3, 1) := by decide +kernel
theorem dX7_count_54 : decode cX7_count 54 = .ok (.iload_n 3, 1) := by decide +kernel
theorem dX7_count_55 : decode cX7_count 55 = .ok (.bipush 8, 2) := by decide +kernel
theorem dX7_count_57 : decode cX7_count 57 = .ok (.if_icmp .ge 26, 3) := by decide +kernel
theorem dX7_count_60 : decode cX7_count 60 = .ok (.iload_n 2, 1) := by decide +kernel
theorem dX7_count_61 : decode cX7_count 61 = .ok (.aload_n 0, 1) := by decide +kernel
theorem dX7_count_62 : decode cX7_count 62 = .ok (.getfield 7, 3) := by decide +kernel
theorem dX7_count_65 : decode cX7_count 65 = .ok (.iload_n 3, 1) := by decide +kernel
theorem dX7_count_66 : decode cX7_count 66 = .ok (.iaload, 1) := by decide +kernel
theorem dX7_count_67 : decode cX7_count 67 = .ok (.ifCond .lt 7, 3) := by decide +kernel
theorem dX7_count_70 : decode cX7_count 70 = .ok (.iconst 1, 1) := by decide +kernel
theorem dX7_count_71 : decode cX7_count 71 = .ok (.goto 4, 3) := by decide +kernel
theorem dX7_count_74 : decode cX7_count 74 = .ok (.iconst 0, 1) := by decide +kernel
theorem dX7_count_75 : decode cX7_count 75 = .ok (.iadd, 1) := by decide +kernel
theorem dX7_count_76 : decode cX7_count 76 = .ok (.istore_n 2, 1) := by decide +kernel
theorem dX7_count_77 : decode cX7_count 77 = .ok (.iinc 3 1, 3) := by decide +kernel
theorem dX7_count_80 : decode cX7_count 80 = .ok (.goto (-26), 3) := by decide +kernel
theorem dX7_count_83 : decode cX7_count 83 = .ok (.iload_n 2, 1) := by decide +kernel
theorem dX7_count_84 : decode cX7_count 84 = .ok (.ireturn, 1) := by decide +kernel
theorem dX7_count_85 : decode cX7_count 85 = .ok (.aload_n 0, 1) := by decide +kernel
theorem dX7_count_86 : decode cX7_count 86 = .ok (.getfield 19, 3) := by decide +kernel
theorem dX7_count_89 : decode cX7_count 89 = .ok (.iconst 0, 1) := by decide +kernel
theorem dX7_count_90 : decode cX7_count 90 = .ok (.iaload, 1) := by decide +kernel
theorem dX7_count_91 : decode cX7_count 91 = .ok (.ireturn, 1) := by decide +kernel
theorem dX7_count_92 : decode cX7_count 92 = .ok (.aload_n 0, 1) := by decide +kernel
theorem dX7_count_93 : decode cX7_count 93 = .ok (.getfield 19, 3) := by decide +kernel
theorem dX7_count_96 : decode cX7_count 96 = .ok (.iconst 1, 1) := by decide +kernel
theorem dX7_count_97 : decode cX7_count 97 = .ok (.iaload, 1) := by decide +kernel
theorem dX7_count_98 : decode cX7_count 98 = .ok (.ireturn, 1) := by decide +kernel
theorem dX7_count_99 : decode cX7_count 99 = .ok (.iconst 0, 1) := by decide +kernel
theorem dX7_count_100 : decode cX7_count 100 = .ok (.istore_n 3, 1) := by decide +kernel
theorem dX7_count_101 : decode cX7_count 101 = .ok (.iload_n 3, 1) := by decide +kernel
theorem dX7_count_102 : decode cX7_count 102 = .ok (.aload_n 0, 1) := by decide +kernel
theorem dX7_count_103 : decode cX7_count 103 = .ok (.getfield 19, 3) := by decide +kernel
theorem dX7_count_106 : decode cX7_count 106 = .ok (.iconst 0, 1) := by decide +kernel
theorem dX7_count_107 : decode cX7_count 107 = .ok (.iaload, 1) := by decide +kernel
theorem dX7_count_108 : decode cX7_count 108 = .ok (.if_icmp .ge 42, 3) := by decide +kernel
theorem dX7_count_111 : decode cX7_count 111 = .ok (.iload_n 2, 1) := by decide +kernel
theorem dX7_count_112 : decode cX7_count 112 = .ok (.iload_n 1, 1) := by decide +kernel
theorem dX7_count_113 : decode cX7_count 113 = .ok (.iconst 5, 1) := by decide +kernel
theorem dX7_count_114 : decode cX7_count 114 = .ok (.if_icmp .ne 12, 3) := by decide +kernel
theorem dX7_count_117 : decode cX7_count 117 = .ok (.aload_n 0, 1) := by decide +kernel
theorem dX7_count_118 : decode cX7_count 118 = .ok (.iload_n 3, 1) := by decide +kernel
theorem dX7_count_119 : decode cX7_count 119 = .ok (.iconst 5, 1) := by decide +kernel
theorem dX7_count_120 : decode cX7_count 120 = .ok (.invokevirtual 201, 3) := by decide +kernel
theorem dX7_count_123 : decode cX7_count 123 = .ok (.goto 19, 3) := by decide +kernel
theorem dX7_count_126 : decode cX7_count 126 = .ok (.aload_n 0, 1) := by decide +kernel
theorem dX7_count_127 : decode cX7_count 127 = .ok (.iload_n 3, 1) := by decide +kernel
theorem dX7_count_128 : decode cX7_count 128 = .ok (.iconst 4, 1) := by decide +kernel
theorem dX7_count_129 : decode cX7_count 129 = .ok (.invokevirtual 201, 3) := by decide +kernel
theorem dX7_count_132 : decode cX7_count 132 = .ok (.ldc 101, 2) := by decide +kernel
theorem dX7_count_134 : decode cX7_count 134 = .ok (.if_icmp .eq 7, 3) := by decide +kernel
theorem dX7_count_137 : decode cX7_count 137 = .ok (.iconst 1, 1) := by decide +kernel
theorem dX7_count_138 : decode cX7_count 138 = .ok (.goto 4, 3) := by decide +kernel
theorem dX7_count_141 : decode cX7_count 141 = .ok (.iconst 0, 1) := by decide +kernel
theorem dX7_count_142 : decode cX7_count 142 = .ok (.iadd, 1) := by decide +kernel
theorem dX7_count_143 : decode cX7_count 143 = .ok (.istore_n 2, 1) := by decide +kernel
theorem dX7_count_144 : decode cX7_count 144 = .ok (.iinc 3 1, 3) := by decide +kernel
theorem dX7_count_147 : decode cX7_count 147 = .ok (.goto (-46), 3) := by decide +kernel
theorem dX7_count_150 : decode cX7_count 150 = .ok (.iload_n 2, 1) := by decide +kernel
theorem dX7_count_151 : decode cX7_count 151 = .ok (.ireturn, 1) := by decide +kernel
theorem dX7_count_152 : decode cX7_count 152 = .ok (.aload_n 0, 1) := by decide +kernel
theorem dX7_count_153 : decode cX7_count 153 = .ok (.getfield 190, 3) := by decide +kernel
theorem dX7_count_156 : decode cX7_count 156 = .ok (.ireturn, 1) := by decide +kernel
theorem dX7_count_157 : decode cX7_count 157 = .ok (.aload_n 0, 1) := by decide +kernel
theorem dX7_count_158 : decode cX7_count 158 = .ok (.getfield 92, 3) := by decide +kernel
theorem dX7_count_161 : decode cX7_count 161 = .ok (.ireturn, 1) := by decide +kernel
theorem dX7_count_162 : decode cX7_count 162 = .ok (.ldc 85, 2) := by decide +kernel
theorem dX7_count_164 : decode cX7_count 164 = .ok (.ireturn, 1) := by decide +kernel
theorem dX7_status_0 : decode cX7_status 0 = .ok (.aload_n 0, 1) := by decide +kernel
theorem dX7_status_1 : decode cX7_status 1 = .ok (.iconst 0, 1) := by decide +kernel
theorem dX7_status_2 : decode cX7_status 2 = .ok (.putfield 65, 3) := by decide +kernel
theorem dX7_status_5 : decode cX7_status 5 = .ok (.aload_n 0, 1) := by decide +kernel
theorem dX7_status_6 : decode cX7_status 6 = .ok (.getfield 69, 3) := by decide +kernel
theorem dX7_status_9 : decode cX7_status 9 = .ok (.ireturn, 1) := by decide +kernel
end
section
theorem dL_law_0 : decode cL_law 0 = .ok (.new 7, 3) := by decide +kernel
theorem dL_law_3 : decode cL_law 3 = .ok (.dup, 1) := by decide +kernel
theorem dL_law_4 : decode cL_law 4 = .ok (.invokespecial 9, 3) := by decide +kernel
theorem dL_law_7 : decode cL_law 7 = .ok (.astore_n 1, 1) := by decide +kernel
theorem dL_law_8 : decode cL_law 8 = .ok (.new 10, 3) := by decide +kernel
theorem dL_law_11 : decode cL_law 11 = .ok (.dup, 1) := by decide +kernel
theorem dL_law_12 : decode cL_law 12 = .ok (.invokespecial 12, 3) := by decide +kernel
theorem dL_law_15 : decode cL_law 15 = .ok (.astore_n 2, 1) := by decide +kernel
theorem dL_law_16 : decode cL_law 16 = .ok (.iconst 0, 1) := by decide +kernel
theorem dL_law_17 : decode cL_law 17 = .ok (.istore_n 3, 1) := by decide +kernel
theorem dL_law_18 : decode cL_law 18 = .ok (.iload_n 3, 1) := by decide +kernel
theorem dL_law_19 : decode cL_law 19 = .ok (.aload_n 0, 1) := by decide +kernel
theorem dL_law_20 : decode cL_law 20 = .ok (.arraylength, 1) := by decide +kernel
theorem dL_law_21 : decode cL_law 21 = .ok (.bipush 6, 2) := by decide +kernel
theorem dL_law_23 : decode cL_law 23 = .ok (.isub, 1) := by decide +kernel
theorem dL_law_24 : decode cL_law 24 = .ok (.if_icmp .gt 1070, 3) := by decide +kernel
theorem dL_law_27 : decode cL_law 27 = .ok (.aload_n 0, 1) := by decide +kernel
theorem dL_law_28 : decode cL_law 28 = .ok (.iload_n 3, 1) := by decide +kernel
theorem dL_law_29 : decode cL_law 29 = .ok (.iaload, 1) := by decide +kernel
theorem dL_law_30 : decode cL_law 30 = .ok (.bipush 31, 2) := by decide +kernel
theorem dL_law_32 : decode cL_law 32 = .ok (.iand, 1) := by decide +kernel
theorem dL_law_33 : decode cL_law 33 = .ok (.tableswitch 1055 0 29 #[135, 178, 221, 284, 307, 370, 383, 396, 409, 442, 455, 488, 521, 554, 587, 610, 643, 696, 729, 742, 775, 828, 861, 884, 907, 930, 963, 996, 1019, 1042], 135) := by decide +kernel
theorem dL_law_168 : decode cL_law 168 = .ok (.aload_n 1, 1) := by decide +kernel
theorem dL_law_169 : decode cL_law 169 = .ok (.aload_n 0, 1) := by decide +kernel
theorem dL_law_170 : decode cL_law 170 = .ok (.iload_n 3, 1) := by decide +kernel
theorem dL_law_171 : decode cL_law 171 = .ok (.iconst 1, 1) := by decide +kernel
theorem dL_law_172 : decode cL_law 172 = .ok (.iadd, 1) := by decide +kernel
theorem dL_law_173 : decode cL_law 173 = .ok (.iaload, 1) := by decide +kernel
theorem dL_law_174 : decode cL_law 174 = .ok (.aload_n 0, 1) := by decide +kernel
theorem dL_law_175 : decode cL_law 175 = .ok (.iload_n 3, 1) := by decide +kernel
theorem dL_law_176 : decode cL_law 176 = .ok (.iconst 2, 1) := by decide +kernel
theorem dL_law_177 : decode cL_law 177 = .ok (.iadd, 1) := by decide +kernel
theorem dL_law_178 : decode cL_law 178 = .ok (.iaload, 1) := by decide +kernel
theorem dL_law_179 : decode cL_law 179 = .ok (.aload_n 0, 1) := by decide +kernel
theorem dL_law_180 : decode cL_law 180 = .ok (.iload_n 3, 1) := by decide +kernel
theorem dL_law_181 : decode cL_law 181 = .ok (.iconst 3, 1) := by decide +kernel
theorem dL_law_182 : decode cL_law 182 = .ok (.iadd, 1) := by decide +kernel
theorem dL_law_183 : decode cL_law 183 = .ok (.iaload, 1) := by decide +kernel
theorem dL_law_184 : decode cL_law 184 = .ok (.invokevirtual 13, 3) := by decide +kernel
theorem dL_law_187 : decode cL_law 187 = .ok (.aload_n 2, 1) := by decide +kernel
theorem dL_law_188 : decode cL_law 188 = .ok (.aload_n 0, 1) := by decide +kernel
theorem dL_law_189 : decode cL_law 189 = .ok (.iload_n 3, 1) := by decide +kernel
theorem dL_law_190 : decode cL_law 190 = .ok (.iconst 1, 1) := by decide +kernel
theorem dL_law_191 : decode cL_law 191 = .ok (.iadd, 1) := by decide +kernel
theorem dL_law_192 : decode cL_law 192 = .ok (.iaload, 1) := by decide +kernel
theorem dL_law_193 : decode cL_law 193 = .ok (.aload_n 0, 1) := by decide +kernel
theorem dL_law_194 : decode cL_law 194 = .ok (.iload_n 3, 1) := by decide +kernel
theorem dL_law_195 : decode cL_law 195 = .ok (.iconst 2, 1) := by decide +kernel
theorem dL_law_196 : decode cL_law 196 = .ok (.iadd, 1) := by decide +kernel
theorem dL_law_197 : decode cL_law 197 = .ok (.iaload, 1) := by decide +kernel
theorem dL_law_198 : decode cL_law 198 = .ok (.aload_n 0, 1) := by decide +kernel
theorem dL_law_199 : decode cL_law 199 = .ok (.iload_n 3, 1) := by decide +kernel
theorem dL_law_200 : decode cL_law 200 = .ok (.iconst 3, 1) := by decide +kernel
theorem dL_law_201 : decode cL_law 201 = .ok (.iadd, 1) := by decide +kernel
theorem dL_law_202 : decode cL_law 202 = .ok (.iaload, 1) := by decide +kernel
theorem dL_law_203 : decode cL_law 203 = .ok (.invokevirtual 17, 3) := by decide +kernel
theorem dL_law_206 : decode cL_law 206 = .ok (.if_icmp .eq 882, 3) := by decide +kernel
theorem dL_law_209 : decode cL_law 209 = .ok (.iconst 0, 1) := by decide +kernel
theorem dL_law_210 : decode cL_law 210 = .ok (.ireturn, 1) := by decide +kernel
theorem dL_law_211 : decode cL_law 211 = .ok (.aload_n 1, 1) := by decide +kernel
theorem dL_law_212 : decode cL_law 212 = .ok (.aload_n 0, 1) := by decide +kernel
theorem dL_law_213 : decode cL_law 213 = .ok (.iload_n 3, 1) := by decide +kernel
theorem dL_law_214 : decode cL_law 214 = .ok (.iconst 1, 1) := by decide +kernel
theorem dL_law_215 : decode cL_law 215 = .ok (.iadd, 1) := by decide +kernel
theorem dL_law_216 : decode cL_law 216 = .ok (.iaload, 1) := by decide +kernel
theorem dL_law_217 : decode cL_law 217 = .ok (.aload_n 0, 1) := by decide +kernel
theorem dL_law_218 : decode cL_law 218 = .ok (.iload_n 3, 1) := by decide +kernel
theorem dL_law_219 : decode cL_law 219 = .ok (.iconst 2, 1) := by decide +kernel
theorem dL_law_220 : decode cL_law 220 = .ok (.iadd, 1) := by decide +kernel
theorem dL_law_221 : decode cL_law 221 = .ok (.iaload, 1) := by decide +kernel
theorem dL_law_222 : decode cL_law 222 = .ok (.aload_n 0, 1) := by decide +kernel
theorem dL_law_223 : decode cL_law 223 = .ok (.iload_n 3, 1) := by decide +kernel
theorem dL_law_224 : decode cL_law 224 = .ok (.iconst 3, 1) := by decide +kernel
theorem dL_law_225 : decode cL_law 225 = .ok (.iadd, 1) := by decide +kernel
theorem dL_law_226 : decode cL_law 226 = .ok (.iaload, 1) := by decide +kernel
theorem dL_law_227 : decode cL_law 227 = .ok (.invokevirtual 18, 3) := by decide +kernel
theorem dL_law_230 : decode cL_law 230 = .ok (.aload_n 2, 1) := by decide +kernel
theorem dL_law_231 : decode cL_law 231 = .ok (.aload_n 0, 1) := by decide +kernel
theorem dL_law_232 : decode cL_law 232 = .ok (.iload_n 3, 1) := by decide +kernel
theorem dL_law_233 : decode cL_law 233 = .ok (.iconst 1, 1) := by decide +kernel
theorem dL_law_234 : decode cL_law 234 = .ok (.iadd, 1) := by decide +kernel
theorem dL_law_235 : decode cL_law 235 = .ok (.iaload, 1) := by decide +kernel
theorem dL_law_236 : decode cL_law 236 = .ok (.aload_n 0, 1) := by decide +kernel
theorem dL_law_237 : decode cL_law 237 = .ok (.iload_n 3, 1) := by decide +kernel
theorem dL_law_238 : decode cL_law 238 = .ok (.iconst 2, 1) := by decide +kernel
theorem dL_law_239 : decode cL_law 239 = .ok (.iadd, 1) := by decide +kernel
theorem dL_law_240 : decode cL_law 240 = .ok (.iaload, 1) := by decide +kernel
theorem dL_law_241 : decode cL_law 241 = .ok (.aload_n 0, 1) := by decide +kernel
theorem dL_law_242 : decode cL_law 242 = .ok (.iload_n 3, 1) := by decide +kernel
theorem dL_law_243 : decode cL_law 243 = .ok (.iconst 3, 1) := by decide +kernel
theorem dL_law_244 : decode cL_law 244 = .ok (.iadd, 1) := by decide +kernel
theorem dL_law_245 : decode cL_law 245 = .ok (.iaload, 1) := by decide +kernel
theorem dL_law_246 : decode cL_law 246 = .ok (.invokevirtual 21, 3) := by decide +kernel
theorem dL_law_249 : decode cL_law 249 = .ok (.if_icmp .eq 839, 3) := by decide +kernel
theorem dL_law_252 : decode cL_law 252 = .ok (.iconst 0, 1) := by decide +kernel
theorem dL_law_253 : decode cL_law 253 = .ok (.ireturn, 1) := by decide +kernel
theorem dL_law_254 : decode cL_law 254 = .ok (.aload_n 1, 1) := by decide +kernel
theorem dL_law_255 : decode cL_law 255 = .ok (.aload_n 0, 1) := by decide +kernel
theorem dL_law_256 : decode cL_law 256 = .ok (.iload_n 3, 1) := by decide +kernel
theorem dL_law_257 : decode cL_law 257 = .ok (.iconst 1, 1) := by decide +kernel
theorem dL_law_258 : decode cL_law 258 = .ok (.iadd, 1) := by decide +kernel
theorem dL_law_259 : decode cL_law 259 = .ok (.iaload, 1) := by decide +kernel
theorem dL_law_260 : decode cL_law 260 = .ok (.aload_n 0, 1) := by decide +kernel
theorem dL_law_261 : decode cL_law 261 = .ok (.iload_n 3, 1) := by decide +kernel
theorem dL_law_262 : decode cL_law 262 = .ok (.iconst 2, 1) := by decide +kernel
theorem dL_law_263 : decode cL_law 263 = .ok (.iadd, 1) := by decide +kernel
theorem dL_law_264 : decode cL_law 264 = .ok (.iaload, 1) := by decide +kernel
theorem dL_law_265 : decode cL_law 265 = .ok (.aload_n 0, 1) := by decide +kernel
theorem dL_law_266 : decode cL_law 266 = .ok (.iload_n 3, 1) := by decide +kernel
theorem dL_law_267 : decode cL_law 267 = .ok (.iconst 3, 1) := by decide +kernel
theorem dL_law_268 : decode cL_law 268 = .ok (.iadd, 1) := by decide +kernel
theorem dL_law_269 : decode cL_law 269 = .ok (.iaload, 1) := by decide +kernel
theorem dL_law_270 : decode cL_law 270 = .ok (.aload_n 0, 1) := by decide +kernel
theorem dL_law_271 : decode cL_law 271 = .ok (.iload_n 3, 1) := by decide +kernel
theorem dL_law_272 : decode cL_law 272 = .ok (.iconst 4, 1) := by decide +kernel
theorem dL_law_273 : decode cL_law 273 = .ok (.iadd, 1) := by decide +kernel
theorem dL_law_274 : decode cL_law 274 = .ok (.iaload, 1) := by decide +kernel
theorem dL_law_275 : decode cL_law 275 = .ok (.aload_n 0, 1) := by decide +kernel
theorem dL_law_276 : decode cL_law 276 = .ok (.iload_n 3, 1) := by decide +kernel
theorem dL_law_277 : decode cL_law 277 = .ok (.iconst 5, 1) := by decide +kernel
theorem dL_law_278 : decode cL_law 278 = .ok (.iadd, 1) := by decide +kernel
theorem dL_law_279 : decode cL_law 279 = .ok (.iaload, 1) := by decide +kernel
theorem dL_law_280 : decode cL_law 280 = .ok (.invokevirtual 22, 3) := by decide +kernel
theorem dL_law_283 : decode cL_law 283 = .ok (.aload_n 2, 1) := by decide +kernel
theorem dL_law_284 : decode cL_law 284 = .ok (.aload_n 0, 1) := by decide +kernel
theorem dL_law_285 : decode cL_law 285 = .ok (.iload_n 3, 1) := by decide +kernel
theorem dL_law_286 : decode cL_law 286 = .ok (.iconst 1, 1) := by decide +kernel
theorem dL_law_287 : decode cL_law 287 = .ok (.iadd, 1) := by decide +kernel
theorem dL_law_288 : decode cL_law 288 = .ok (.iaload, 1) := by decide +kernel
theorem dL_law_289 : decode cL_law 289 = .ok (.aload_n 0, 1) := by decide +kernel
theorem dL_law_290 : decode cL_law 290 = .ok (.iload_n 3, 1) := by decide +kernel
theorem dL_law_291 : decode cL_law 291 = .ok (.iconst 2, 1) := by decide +kernel
theorem dL_law_292 : decode cL_law 292 = .ok (.iadd, 1) := by decide +kernel
theorem dL_law_293 : decode cL_law 293 = .ok (.iaload, 1) := by decide +kernel
theorem dL_law_294 : decode cL_law 294 = .ok (.aload_n 0, 1) := by decide +kernel
theorem dL_law_295 : decode cL_law 295 = .ok (.iload_n 3, 1) := by decide +kernel
theorem dL_law_296 : decode cL_law 296 = .ok (.iconst 3, 1) := by decide +kernel
theorem dL_law_297 : decode cL_law 297 = .ok (.iadd, 1) := by decide +kernel
theorem dL_law_298 : decode cL_law 298 = .ok (.iaload, 1) := by decide +kernel
theorem dL_law_299 : decode cL_law 299 = .ok (.aload_n 0, 1) := by decide +kernel
theorem dL_law_300 : decode cL_law 300 = .ok (.iload_n 3, 1) := by decide +kernel
theorem dL_law_301 : decode cL_law 301 = .ok (.iconst 4, 1) := by decide +kernel
theorem dL_law_302 : decode cL_law 302 = .ok (.iadd, 1) := by decide +kernel
theorem dL_law_303 : decode cL_law 303 = .ok (.iaload, 1) := by decide +kernel
theorem dL_law_304 : decode cL_law 304 = .ok (.aload_n 0, 1) := by decide +kernel
theorem dL_law_305 : decode cL_law 305 = .ok (.iload_n 3, 1) := by decide +kernel
theorem dL_law_306 : decode cL_law 306 = .ok (.iconst 5, 1) := by decide +kernel
theorem dL_law_307 : decode cL_law 307 = .ok (.iadd, 1) := by decide +kernel
theorem dL_law_308 : decode cL_law 308 = .ok (.iaload, 1) := by decide +kernel
theorem dL_law_309 : decode cL_law 309 = .ok (.invokevirtual 26, 3) := by decide +kernel
theorem dL_law_312 : decode cL_law 312 = .ok (.if_icmp .eq 776, 3) := by decide +kernel
theorem dL_law_315 : decode cL_law 315 = .ok (.iconst 0, 1) := by decide +kernel
theorem dL_law_316 : decode cL_law 316 = .ok (.ireturn, 1) := by decide +kernel
theorem dL_law_317 : decode cL_law 317 = .ok (.aload_n 1, 1) := by decide +kernel
theorem dL_law_318 : decode cL_law 318 = .ok (.aload_n 0, 1) := by decide +kernel
theorem dL_law_319 : decode cL_law 319 = .ok (.iload_n 3, 1) := by decide +kernel
theorem dL_law_320 : decode cL_law 320 = .ok (.iconst 1, 1) := by decide +kernel
theorem dL_law_321 : decode cL_law 321 = .ok (.iadd, 1) := by decide +kernel
theorem dL_law_322 : decode cL_law 322 = .ok (.iaload, 1) := by decide +kernel
theorem dL_law_323 : decode cL_law 323 = .ok (.invokevirtual 27, 3) := by decide +kernel
theorem dL_law_326 : decode cL_law 326 = .ok (.aload_n 2, 1) := by decide +kernel
theorem dL_law_327 : decode cL_law 327 = .ok (.aload_n 0, 1) := by decide +kernel
theorem dL_law_328 : decode cL_law 328 = .ok (.iload_n 3, 1) := by decide +kernel
theorem dL_law_329 : decode cL_law 329 = .ok (.iconst 1, 1) := by decide +kernel
theorem dL_law_330 : decode cL_law 330 = .ok (.iadd, 1) := by decide +kernel
theorem dL_law_331 : decode cL_law 331 = .ok (.iaload, 1) := by decide +kernel
theorem dL_law_332 : decode cL_law 332 = .ok (.invokevirtual 31, 3) := by decide +kernel
theorem dL_law_335 : decode cL_law 335 = .ok (.if_icmp .eq 753, 3) := by decide +kernel
theorem dL_law_338 : decode cL_law 338 = .ok (.iconst 0, 1) := by decide +kernel
theorem dL_law_339 : decode cL_law 339 = .ok (.ireturn, 1) := by decide +kernel
theorem dL_law_340 : decode cL_law 340 = .ok (.aload_n 1, 1) := by decide +kernel
theorem dL_law_341 : decode cL_law 341 = .ok (.aload_n 0, 1) := by decide +kernel
theorem dL_law_342 : decode cL_law 342 = .ok (.iload_n 3, 1) := by decide +kernel
theorem dL_law_343 : decode cL_law 343 = .ok (.iconst 1, 1) := by decide +kernel
theorem dL_law_344 : decode cL_law 344 = .ok (.iadd, 1) := by decide +kernel
theorem dL_law_345 : decode cL_law 345 = .ok (.iaload, 1) := by decide +kernel
theorem dL_law_346 : decode cL_law 346 = .ok (.i2l, 1) := by decide +kernel
theorem dL_law_347 : decode cL_law 347 = .ok (.bipush 32, 2) := by decide +kernel
theorem dL_law_349 : decode cL_law 349 = .ok (.lshl, 1) := by decide +kernel
theorem dL_law_350 : decode cL_law 350 = .ok (.aload_n 0, 1) := by decide +kernel
theorem dL_law_351 : decode cL_law 351 = .ok (.iload_n 3, 1) := by decide +kernel
theorem dL_law_352 : decode cL_law 352 = .ok (.iconst 2, 1) := by decide +kernel
theorem dL_law_353 : decode cL_law 353 = .ok (.iadd, 1) := by decide +kernel
theorem dL_law_354 : decode cL_law 354 = .ok (.iaload, 1) := by decide +kernel
theorem dL_law_355 : decode cL_law 355 = .ok (.i2l, 1) := by decide +kernel
theorem dL_law_356 : decode cL_law 356 = .ok (.ldc2_w 32, 3) := by decide +kernel
theorem dL_law_359 : decode cL_law 359 = .ok (.land, 1) := by decide +kernel
theorem dL_law_360 : decode cL_law 360 = .ok (.lor, 1) := by decide +kernel
theorem dL_law_361 : decode cL_law 361 = .ok (.aload_n 0, 1) := by decide +kernel
theorem dL_law_362 : decode cL_law 362 = .ok (.iload_n 3, 1) := by decide +kernel
theorem dL_law_363 : decode cL_law 363 = .ok (.iconst 3, 1) := by decide +kernel
theorem dL_law_364 : decode cL_law 364 = .ok (.iadd, 1) := by decide +kernel
theorem dL_law_365 : decode cL_law 365 = .ok (.iaload, 1) := by decide +kernel
theorem dL_law_366 : decode cL_law 366 = .ok (.invokevirtual 34, 3) := by decide +kernel
theorem dL_law_369 : decode cL_law 369 = .ok (.aload_n 2, 1) := by decide +kernel
theorem dL_law_370 : decode cL_law 370 = .ok (.aload_n 0, 1) := by decide +kernel
theorem dL_law_371 : decode cL_law 371 = .ok (.iload_n 3, 1) := by decide +kernel
theorem dL_law_372 : decode cL_law 372 = .ok (.iconst 1, 1) := by decide +kernel
theorem dL_law_373 : decode cL_law 373 = .ok (.iadd, 1) := by decide +kernel
theorem dL_law_374 : decode cL_law 374 = .ok (.iaload, 1) := by decide +kernel
theorem dL_law_375 : decode cL_law 375 = .ok (.i2l, 1) := by decide +kernel
theorem dL_law_376 : decode cL_law 376 = .ok (.bipush 32, 2) := by decide +kernel
theorem dL_law_378 : decode cL_law 378 = .ok (.lshl, 1) := by decide +kernel
theorem dL_law_379 : decode cL_law 379 = .ok (.aload_n 0, 1) := by decide +kernel
theorem dL_law_380 : decode cL_law 380 = .ok (.iload_n 3, 1) := by decide +kernel
theorem dL_law_381 : decode cL_law 381 = .ok (.iconst 2, 1) := by decide +kernel
theorem dL_law_382 : decode cL_law 382 = .ok (.iadd, 1) := by decide +kernel
theorem dL_law_383 : decode cL_law 383 = .ok (.iaload, 1) := by decide +kernel
theorem dL_law_384 : decode cL_law 384 = .ok (.i2l, 1) := by decide +kernel
theorem dL_law_385 : decode cL_law 385 = .ok (.ldc2_w 32, 3) := by decide +kernel
theorem dL_law_388 : decode cL_law 388 = .ok (.land, 1) := by decide +kernel
theorem dL_law_389 : decode cL_law 389 = .ok (.lor, 1) := by decide +kernel
theorem dL_law_390 : decode cL_law 390 = .ok (.aload_n 0, 1) := by decide +kernel
theorem dL_law_391 : decode cL_law 391 = .ok (.iload_n 3, 1) := by decide +kernel
theorem dL_law_392 : decode cL_law 392 = .ok (.iconst 3, 1) := by decide +kernel
theorem dL_law_393 : decode cL_law 393 = .ok (.iadd, 1) := by decide +kernel
theorem dL_law_394 : decode cL_law 394 = .ok (.iaload, 1) := by decide +kernel
theorem dL_law_395 : decode cL_law 395 = .ok (.invokevirtual 38, 3) := by decide +kernel
theorem dL_law_398 : decode cL_law 398 = .ok (.if_icmp .eq 690, 3) := by decide +kernel
theorem dL_law_401 : decode cL_law 401 = .ok (.iconst 0, 1) := by decide +kernel
theorem dL_law_402 : decode cL_law 402 = .ok (.ireturn, 1) := by decide +kernel
theorem dL_law_403 : decode cL_law 403 = .ok (.aload_n 1, 1) := by decide +kernel
theorem dL_law_404 : decode cL_law 404 = .ok (.invokevirtual 39, 3) := by decide +kernel
theorem dL_law_407 : decode cL_law 407 = .ok (.aload_n 2, 1) := by decide +kernel
theorem dL_law_408 : decode cL_law 408 = .ok (.invokevirtual 43, 3) := by decide +kernel
theorem dL_law_411 : decode cL_law 411 = .ok (.if_icmp .eq 677, 3) := by decide +kernel
theorem dL_law_414 : decode cL_law 414 = .ok (.iconst 0, 1) := by decide +kernel
theorem dL_law_415 : decode cL_law 415 = .ok (.ireturn, 1) := by decide +kernel
theorem dL_law_416 : decode cL_law 416 = .ok (.aload_n 1, 1) := by decide +kernel
theorem dL_law_417 : decode cL_law 417 = .ok (.invokevirtual 44, 3) := by decide +kernel
theorem dL_law_420 : decode cL_law 420 = .ok (.aload_n 2, 1) := by decide +kernel
theorem dL_law_421 : decode cL_law 421 = .ok (.invokevirtual 47, 3) := by decide +kernel
theorem dL_law_424 : decode cL_law 424 = .ok (.if_icmp .eq 664, 3) := by decide +kernel
theorem dL_law_427 : decode cL_law 427 = .ok (.iconst 0, 1) := by decide +kernel
theorem dL_law_428 : decode cL_law 428 = .ok (.ireturn, 1) := by decide +kernel
theorem dL_law_429 : decode cL_law 429 = .ok (.aload_n 1, 1) := by decide +kernel
theorem dL_law_430 : decode cL_law 430 = .ok (.invokevirtual 48, 3) := by decide +kernel
theorem dL_law_433 : decode cL_law 433 = .ok (.aload_n 2, 1) := by decide +kernel
theorem dL_law_434 : decode cL_law 434 = .ok (.invokevirtual 51, 3) := by decide +kernel
theorem dL_law_437 : decode cL_law 437 = .ok (.if_icmp .eq 651, 3) := by decide +kernel
theorem dL_law_440 : decode cL_law 440 = .ok (.iconst 0, 1) := by decide +kernel
theorem dL_law_441 : decode cL_law 441 = .ok (.ireturn, 1) := by decide +kernel
theorem dL_law_442 : decode cL_law 442 = .ok (.aload_n 1, 1) := by decide +kernel
theorem dL_law_443 : decode cL_law 443 = .ok (.aload_n 0, 1) := by decide +kernel
theorem dL_law_444 : decode cL_law 444 = .ok (.iload_n 3, 1) := by decide +kernel
theorem dL_law_445 : decode cL_law 445 = .ok (.iconst 1, 1) := by decide +kernel
theorem dL_law_446 : decode cL_law 446 = .ok (.iadd, 1) := by decide +kernel
theorem dL_law_447 : decode cL_law 447 = .ok (.iaload, 1) := by decide +kernel
theorem dL_law_448 : decode cL_law 448 = .ok (.aload_n 0, 1) := by decide +kernel
theorem dL_law_449 : decode cL_law 449 = .ok (.iload_n 3, 1) := by decide +kernel
theorem dL_law_450 : decode cL_law 450 = .ok (.iconst 2, 1) := by decide +kernel
theorem dL_law_451 : decode cL_law 451 = .ok (.iadd, 1) := by decide +kernel
theorem dL_law_452 : decode cL_law 452 = .ok (.iaload, 1) := by decide +kernel
theorem dL_law_453 : decode cL_law 453 = .ok (.invokevirtual 52, 3) := by decide +kernel
theorem dL_law_456 : decode cL_law 456 = .ok (.aload_n 2, 1) := by decide +kernel
theorem dL_law_457 : decode cL_law 457 = .ok (.aload_n 0, 1) := by decide +kernel
theorem dL_law_458 : decode cL_law 458 = .ok (.iload_n 3, 1) := by decide +kernel
theorem dL_law_459 : decode cL_law 459 = .ok (.iconst 1, 1) := by decide +kernel
theorem dL_law_460 : decode cL_law 460 = .ok (.iadd, 1) := by decide +kernel
theorem dL_law_461 : decode cL_law 461 = .ok (.iaload, 1) := by decide +kernel
theorem dL_law_462 : decode cL_law 462 = .ok (.aload_n 0, 1) := by decide +kernel
theorem dL_law_463 : decode cL_law 463 = .ok (.iload_n 3, 1) := by decide +kernel
theorem dL_law_464 : decode cL_law 464 = .ok (.iconst 2, 1) := by decide +kernel
theorem dL_law_465 : decode cL_law 465 = .ok (.iadd, 1) := by decide +kernel
theorem dL_law_466 : decode cL_law 466 = .ok (.iaload, 1) := by decide +kernel
theorem dL_law_467 : decode cL_law 467 = .ok (.invokevirtual 56, 3) := by decide +kernel
theorem dL_law_470 : decode cL_law 470 = .ok (.if_icmp .eq 618, 3) := by decide +kernel
theorem dL_law_473 : decode cL_law 473 = .ok (.iconst 0, 1) := by decide +kernel
theorem dL_law_474 : decode cL_law 474 = .ok (.ireturn, 1) := by decide +kernel
theorem dL_law_475 : decode cL_law 475 = .ok (.aload_n 1, 1) := by decide +kernel
theorem dL_law_476 : decode cL_law 476 = .ok (.invokevirtual 57, 3) := by decide +kernel
theorem dL_law_479 : decode cL_law 479 = .ok (.aload_n 2, 1) := by decide +kernel
theorem dL_law_480 : decode cL_law 480 = .ok (.invokevirtual 60, 3) := by decide +kernel
theorem dL_law_483 : decode cL_law 483 = .ok (.if_icmp .eq 605, 3) := by decide +kernel
theorem dL_law_486 : decode cL_law 486 = .ok (.iconst 0, 1) := by decide +kernel
theorem dL_law_487 : decode cL_law 487 = .ok (.ireturn, 1) := by decide +kernel
theorem dL_law_488 : decode cL_law 488 = .ok (.aload_n 1, 1) := by decide +kernel
theorem dL_law_489 : decode cL_law 489 = .ok (.aload_n 0, 1) := by decide +kernel
theorem dL_law_490 : decode cL_law 490 = .ok (.iload_n 3, 1) := by decide +kernel
theorem dL_law_491 : decode cL_law 491 = .ok (.iconst 1, 1) := by decide +kernel
theorem dL_law_492 : decode cL_law 492 = .ok (.iadd, 1) := by decide +kernel
theorem dL_law_493 : decode cL_law 493 = .ok (.iaload, 1) := by decide +kernel
theorem dL_law_494 : decode cL_law 494 = .ok (.aload_n 0, 1) := by decide +kernel
theorem dL_law_495 : decode cL_law 495 = .ok (.iload_n 3, 1) := by decide +kernel
theorem dL_law_496 : decode cL_law 496 = .ok (.iconst 2, 1) := by decide +kernel
theorem dL_law_497 : decode cL_law 497 = .ok (.iadd, 1) := by decide +kernel
theorem dL_law_498 : decode cL_law 498 = .ok (.iaload, 1) := by decide +kernel
theorem dL_law_499 : decode cL_law 499 = .ok (.invokevirtual 61, 3) := by decide +kernel
theorem dL_law_502 : decode cL_law 502 = .ok (.aload_n 2, 1) := by decide +kernel
theorem dL_law_503 : decode cL_law 503 = .ok (.aload_n 0, 1) := by decide +kernel
theorem dL_law_504 : decode cL_law 504 = .ok (.iload_n 3, 1) := by decide +kernel
theorem dL_law_505 : decode cL_law 505 = .ok (.iconst 1, 1) := by decide +kernel
theorem dL_law_506 : decode cL_law 506 = .ok (.iadd, 1) := by decide +kernel
theorem dL_law_507 : decode cL_law 507 = .ok (.iaload, 1) := by decide +kernel
theorem dL_law_508 : decode cL_law 508 = .ok (.aload_n 0, 1) := by decide +kernel
theorem dL_law_509 : decode cL_law 509 = .ok (.iload_n 3, 1) := by decide +kernel
theorem dL_law_510 : decode cL_law 510 = .ok (.iconst 2, 1) := by decide +kernel
theorem dL_law_511 : decode cL_law 511 = .ok (.iadd, 1) := by decide +kernel
theorem dL_law_512 : decode cL_law 512 = .ok (.iaload, 1) := by decide +kernel
theorem dL_law_513 : decode cL_law 513 = .ok (.invokevirtual 64, 3) := by decide +kernel
theorem dL_law_516 : decode cL_law 516 = .ok (.if_icmp .eq 572, 3) := by decide +kernel
theorem dL_law_519 : decode cL_law 519 = .ok (.iconst 0, 1) := by decide +kernel
theorem dL_law_520 : decode cL_law 520 = .ok (.ireturn, 1) := by decide +kernel
theorem dL_law_521 : decode cL_law 521 = .ok (.aload_n 1, 1) := by decide +kernel
theorem dL_law_522 : decode cL_law 522 = .ok (.aload_n 0, 1) := by decide +kernel
theorem dL_law_523 : decode cL_law 523 = .ok (.iload_n 3, 1) := by decide +kernel
theorem dL_law_524 : decode cL_law 524 = .ok (.iconst 1, 1) := by decide +kernel
theorem dL_law_525 : decode cL_law 525 = .ok (.iadd, 1) := by decide +kernel
theorem dL_law_526 : decode cL_law 526 = .ok (.iaload, 1) := by decide +kernel
theorem dL_law_527 : decode cL_law 527 = .ok (.aload_n 0, 1) := by decide +kernel
theorem dL_law_528 : decode cL_law 528 = .ok (.iload_n 3, 1) := by decide +kernel
theorem dL_law_529 : decode cL_law 529 = .ok (.iconst 2, 1) := by decide +kernel
theorem dL_law_530 : decode cL_law 530 = .ok (.iadd, 1) := by decide +kernel
theorem dL_law_531 : decode cL_law 531 = .ok (.iaload, 1) := by decide +kernel
theorem dL_law_532 : decode cL_law 532 = .ok (.invokevirtual 65, 3) := by decide +kernel
theorem dL_law_535 : decode cL_law 535 = .ok (.aload_n 2, 1) := by decide +kernel
theorem dL_law_536 : decode cL_law 536 = .ok (.aload_n 0, 1) := by decide +kernel
theorem dL_law_537 : decode cL_law 537 = .ok (.iload_n 3, 1) := by decide +kernel
theorem dL_law_538 : decode cL_law 538 = .ok (.iconst 1, 1) := by decide +kernel
theorem dL_law_539 : decode cL_law 539 = .ok (.iadd, 1) := by decide +kernel
theorem dL_law_540 : decode cL_law 540 = .ok (.iaload, 1) := by decide +kernel
theorem dL_law_541 : decode cL_law 541 = .ok (.aload_n 0, 1) := by decide +kernel
theorem dL_law_542 : decode cL_law 542 = .ok (.iload_n 3, 1) := by decide +kernel
theorem dL_law_543 : decode cL_law 543 = .ok (.iconst 2, 1) := by decide +kernel
theorem dL_law_544 : decode cL_law 544 = .ok (.iadd, 1) := by decide +kernel
theorem dL_law_545 : decode cL_law 545 = .ok (.iaload, 1) := by decide +kernel
theorem dL_law_546 : decode cL_law 546 = .ok (.invokevirtual 68, 3) := by decide +kernel
theorem dL_law_549 : decode cL_law 549 = .ok (.if_icmp .eq 539, 3) := by decide +kernel
theorem dL_law_552 : decode cL_law 552 = .ok (.iconst 0, 1) := by decide +kernel
theorem dL_law_553 : decode cL_law 553 = .ok (.ireturn, 1) := by decide +kernel
theorem dL_law_554 : decode cL_law 554 = .ok (.aload_n 1, 1) := by decide +kernel
theorem dL_law_555 : decode cL_law 555 = .ok (.aload_n 0, 1) := by decide +kernel
theorem dL_law_556 : decode cL_law 556 = .ok (.iload_n 3, 1) := by decide +kernel
theorem dL_law_557 : decode cL_law 557 = .ok (.iconst 1, 1) := by decide +kernel
theorem dL_law_558 : decode cL_law 558 = .ok (.iadd, 1) := by decide +kernel
theorem dL_law_559 : decode cL_law 559 = .ok (.iaload, 1) := by decide +kernel
theorem dL_law_560 : decode cL_law 560 = .ok (.aload_n 0, 1) := by decide +kernel
theorem dL_law_561 : decode cL_law 561 = .ok (.iload_n 3, 1) := by decide +kernel
theorem dL_law_562 : decode cL_law 562 = .ok (.iconst 2, 1) := by decide +kernel
theorem dL_law_563 : decode cL_law 563 = .ok (.iadd, 1) := by decide +kernel
theorem dL_law_564 : decode cL_law 564 = .ok (.iaload, 1) := by decide +kernel
theorem dL_law_565 : decode cL_law 565 = .ok (.invokevirtual 69, 3) := by decide +kernel
theorem dL_law_568 : decode cL_law 568 = .ok (.aload_n 2, 1) := by decide +kernel
theorem dL_law_569 : decode cL_law 569 = .ok (.aload_n 0, 1) := by decide +kernel
theorem dL_law_570 : decode cL_law 570 = .ok (.iload_n 3, 1) := by decide +kernel
theorem dL_law_571 : decode cL_law 571 = .ok (.iconst 1, 1) := by decide +kernel
theorem dL_law_572 : decode cL_law 572 = .ok (.iadd, 1) := by decide +kernel
theorem dL_law_573 : decode cL_law 573 = .ok (.iaload, 1) := by decide +kernel
theorem dL_law_574 : decode cL_law 574 = .ok (.aload_n 0, 1) := by decide +kernel
theorem dL_law_575 : decode cL_law 575 = .ok (.iload_n 3, 1) := by decide +kernel
theorem dL_law_576 : decode cL_law 576 = .ok (.iconst 2, 1) := by decide +kernel
theorem dL_law_577 : decode cL_law 577 = .ok (.iadd, 1) := by decide +kernel
theorem dL_law_578 : decode cL_law 578 = .ok (.iaload, 1) := by decide +kernel
theorem dL_law_579 : decode cL_law 579 = .ok (.invokevirtual 72, 3) := by decide +kernel
theorem dL_law_582 : decode cL_law 582 = .ok (.if_icmp .eq 506, 3) := by decide +kernel
theorem dL_law_585 : decode cL_law 585 = .ok (.iconst 0, 1) := by decide +kernel
theorem dL_law_586 : decode cL_law 586 = .ok (.ireturn, 1) := by decide +kernel
theorem dL_law_587 : decode cL_law 587 = .ok (.aload_n 1, 1) := by decide +kernel
theorem dL_law_588 : decode cL_law 588 = .ok (.aload_n 0, 1) := by decide +kernel
theorem dL_law_589 : decode cL_law 589 = .ok (.iload_n 3, 1) := by decide +kernel
theorem dL_law_590 : decode cL_law 590 = .ok (.iconst 1, 1) := by decide +kernel
theorem dL_law_591 : decode cL_law 591 = .ok (.iadd, 1) := by decide +kernel
theorem dL_law_592 : decode cL_law 592 = .ok (.iaload, 1) := by decide +kernel
theorem dL_law_593 : decode cL_law 593 = .ok (.aload_n 0, 1) := by decide +kernel
theorem dL_law_594 : decode cL_law 594 = .ok (.iload_n 3, 1) := by decide +kernel
theorem dL_law_595 : decode cL_law 595 = .ok (.iconst 2, 1) := by decide +kernel
theorem dL_law_596 : decode cL_law 596 = .ok (.iadd, 1) := by decide +kernel
theorem dL_law_597 : decode cL_law 597 = .ok (.iaload, 1) := by decide +kernel
theorem dL_law_598 : decode cL_law 598 = .ok (.invokevirtual 73, 3) := by decide +kernel
theorem dL_law_601 : decode cL_law 601 = .ok (.aload_n 2, 1) := by decide +kernel
theorem dL_law_602 : decode cL_law 602 = .ok (.aload_n 0, 1) := by decide +kernel
theorem dL_law_603 : decode cL_law 603 = .ok (.iload_n 3, 1) := by decide +kernel
theorem dL_law_604 : decode cL_law 604 = .ok (.iconst 1, 1) := by decide +kernel
theorem dL_law_605 : decode cL_law 605 = .ok (.iadd, 1) := by decide +kernel
theorem dL_law_606 : decode cL_law 606 = .ok (.iaload, 1) := by decide +kernel
theorem dL_law_607 : decode cL_law 607 = .ok (.aload_n 0, 1) := by decide +kernel
theorem dL_law_608 : decode cL_law 608 = .ok (.iload_n 3, 1) := by decide +kernel
theorem dL_law_609 : decode cL_law 609 = .ok (.iconst 2, 1) := by decide +kernel
theorem dL_law_610 : decode cL_law 610 = .ok (.iadd, 1) := by decide +kernel
theorem dL_law_611 : decode cL_law 611 = .ok (.iaload, 1) := by decide +kernel
theorem dL_law_612 : decode cL_law 612 = .ok (.invokevirtual 76, 3) := by decide +kernel
theorem dL_law_615 : decode cL_law 615 = .ok (.if_icmp .eq 473, 3) := by decide +kernel
theorem dL_law_618 : decode cL_law 618 = .ok (.iconst 0, 1) := by decide +kernel
theorem dL_law_619 : decode cL_law 619 = .ok (.ireturn, 1) := by decide +kernel
theorem dL_law_620 : decode cL_law 620 = .ok (.aload_n 1, 1) := by decide +kernel
theorem dL_law_621 : decode cL_law 621 = .ok (.aload_n 0, 1) := by decide +kernel
theorem dL_law_622 : decode cL_law 622 = .ok (.iload_n 3, 1) := by decide +kernel
theorem dL_law_623 : decode cL_law 623 = .ok (.iconst 1, 1) := by decide +kernel
theorem dL_law_624 : decode cL_law 624 = .ok (.iadd, 1) := by decide +kernel
theorem dL_law_625 : decode cL_law 625 = .ok (.iaload, 1) := by decide +kernel
theorem dL_law_626 : decode cL_law 626 = .ok (.invokevirtual 77, 3) := by decide +kernel
theorem dL_law_629 : decode cL_law 629 = .ok (.aload_n 2, 1) := by decide +kernel
theorem dL_law_630 : decode cL_law 630 = .ok (.aload_n 0, 1) := by decide +kernel
theorem dL_law_631 : decode cL_law 631 = .ok (.iload_n 3, 1) := by decide +kernel
theorem dL_law_632 : decode cL_law 632 = .ok (.iconst 1, 1) := by decide +kernel
theorem dL_law_633 : decode cL_law 633 = .ok (.iadd, 1) := by decide +kernel
theorem dL_law_634 : decode cL_law 634 = .ok (.iaload, 1) := by decide +kernel
theorem dL_law_635 : decode cL_law 635 = .ok (.invokevirtual 80, 3) := by decide +kernel
theorem dL_law_638 : decode cL_law 638 = .ok (.if_icmp .eq 450, 3) := by decide +kernel
theorem dL_law_641 : decode cL_law 641 = .ok (.iconst 0, 1) := by decide +kernel
theorem dL_law_642 : decode cL_law 642 = .ok (.ireturn, 1) := by decide +kernel
theorem dL_law_643 : decode cL_law 643 = .ok (.aload_n 1, 1) := by decide +kernel
theorem dL_law_644 : decode cL_law 644 = .ok (.aload_n 0, 1) := by decide +kernel
theorem dL_law_645 : decode cL_law 645 = .ok (.iload_n 3, 1) := by decide +kernel
theorem dL_law_646 : decode cL_law 646 = .ok (.iconst 1, 1) := by decide +kernel
theorem dL_law_647 : decode cL_law 647 = .ok (.iadd, 1) := by decide +kernel
theorem dL_law_648 : decode cL_law 648 = .ok (.iaload, 1) := by decide +kernel
theorem dL_law_649 : decode cL_law 649 = .ok (.aload_n 0, 1) := by decide +kernel
theorem dL_law_650 : decode cL_law 650 = .ok (.iload_n 3, 1) := by decide +kernel
theorem dL_law_651 : decode cL_law 651 = .ok (.iconst 2, 1) := by decide +kernel
theorem dL_law_652 : decode cL_law 652 = .ok (.iadd, 1) := by decide +kernel
theorem dL_law_653 : decode cL_law 653 = .ok (.iaload, 1) := by decide +kernel
theorem dL_law_654 : decode cL_law 654 = .ok (.invokevirtual 81, 3) := by decide +kernel
theorem dL_law_657 : decode cL_law 657 = .ok (.aload_n 2, 1) := by decide +kernel
theorem dL_law_658 : decode cL_law 658 = .ok (.aload_n 0, 1) := by decide +kernel
theorem dL_law_659 : decode cL_law 659 = .ok (.iload_n 3, 1) := by decide +kernel
theorem dL_law_660 : decode cL_law 660 = .ok (.iconst 1, 1) := by decide +kernel
theorem dL_law_661 : decode cL_law 661 = .ok (.iadd, 1) := by decide +kernel
theorem dL_law_662 : decode cL_law 662 = .ok (.iaload, 1) := by decide +kernel
theorem dL_law_663 : decode cL_law 663 = .ok (.aload_n 0, 1) := by decide +kernel
theorem dL_law_664 : decode cL_law 664 = .ok (.iload_n 3, 1) := by decide +kernel
theorem dL_law_665 : decode cL_law 665 = .ok (.iconst 2, 1) := by decide +kernel
theorem dL_law_666 : decode cL_law 666 = .ok (.iadd, 1) := by decide +kernel
theorem dL_law_667 : decode cL_law 667 = .ok (.iaload, 1) := by decide +kernel
theorem dL_law_668 : decode cL_law 668 = .ok (.invokevirtual 84, 3) := by decide +kernel
theorem dL_law_671 : decode cL_law 671 = .ok (.if_icmp .eq 417, 3) := by decide +kernel
theorem dL_law_674 : decode cL_law 674 = .ok (.iconst 0, 1) := by decide +kernel
theorem dL_law_675 : decode cL_law 675 = .ok (.ireturn, 1) := by decide +kernel
theorem dL_law_676 : decode cL_law 676 = .ok (.aload_n 1, 1) := by decide +kernel
theorem dL_law_677 : decode cL_law 677 = .ok (.aload_n 0, 1) := by decide +kernel
theorem dL_law_678 : decode cL_law 678 = .ok (.iload_n 3, 1) := by decide +kernel
theorem dL_law_679 : decode cL_law 679 = .ok (.iconst 1, 1) := by decide +kernel
theorem dL_law_680 : decode cL_law 680 = .ok (.iadd, 1) := by decide +kernel
theorem dL_law_681 : decode cL_law 681 = .ok (.iaload, 1) := by decide +kernel
theorem dL_law_682 : decode cL_law 682 = .ok (.aload_n 0, 1) := by decide +kernel
theorem dL_law_683 : decode cL_law 683 = .ok (.iload_n 3, 1) := by decide +kernel
theorem dL_law_684 : decode cL_law 684 = .ok (.iconst 2, 1) := by decide +kernel
theorem dL_law_685 : decode cL_law 685 = .ok (.iadd, 1) := by decide +kernel
theorem dL_law_686 : decode cL_law 686 = .ok (.iaload, 1) := by decide +kernel
theorem dL_law_687 : decode cL_law 687 = .ok (.aload_n 0, 1) := by decide +kernel
theorem dL_law_688 : decode cL_law 688 = .ok (.iload_n 3, 1) := by decide +kernel
theorem dL_law_689 : decode cL_law 689 = .ok (.iconst 3, 1) := by decide +kernel
theorem dL_law_690 : decode cL_law 690 = .ok (.iadd, 1) := by decide +kernel
theorem dL_law_691 : decode cL_law 691 = .ok (.iaload, 1) := by decide +kernel
theorem dL_law_692 : decode cL_law 692 = .ok (.aload_n 0, 1) := by decide +kernel
theorem dL_law_693 : decode cL_law 693 = .ok (.iload_n 3, 1) := by decide +kernel
theorem dL_law_694 : decode cL_law 694 = .ok (.iconst 4, 1) := by decide +kernel
theorem dL_law_695 : decode cL_law 695 = .ok (.iadd, 1) := by decide +kernel
theorem dL_law_696 : decode cL_law 696 = .ok (.iaload, 1) := by decide +kernel
theorem dL_law_697 : decode cL_law 697 = .ok (.invokevirtual 85, 3) := by decide +kernel
theorem dL_law_700 : decode cL_law 700 = .ok (.aload_n 2, 1) := by decide +kernel
theorem dL_law_701 : decode cL_law 701 = .ok (.aload_n 0, 1) := by decide +kernel
theorem dL_law_702 : decode cL_law 702 = .ok (.iload_n 3, 1) := by decide +kernel
theorem dL_law_703 : decode cL_law 703 = .ok (.iconst 1, 1) := by decide +kernel
theorem dL_law_704 : decode cL_law 704 = .ok (.iadd, 1) := by decide +kernel
theorem dL_law_705 : decode cL_law 705 = .ok (.iaload, 1) := by decide +kernel
theorem dL_law_706 : decode cL_law 706 = .ok (.aload_n 0, 1) := by decide +kernel
theorem dL_law_707 : decode cL_law 707 = .ok (.iload_n 3, 1) := by decide +kernel
theorem dL_law_708 : decode cL_law 708 = .ok (.iconst 2, 1) := by decide +kernel
theorem dL_law_709 : decode cL_law 709 = .ok (.iadd, 1) := by decide +kernel
theorem dL_law_710 : decode cL_law 710 = .ok (.iaload, 1) := by decide +kernel
theorem dL_law_711 : decode cL_law 711 = .ok (.aload_n 0, 1) := by decide +kernel
theorem dL_law_712 : decode cL_law 712 = .ok (.iload_n 3, 1) := by decide +kernel
theorem dL_law_713 : decode cL_law 713 = .ok (.iconst 3, 1) := by decide +kernel
theorem dL_law_714 : decode cL_law 714 = .ok (.iadd, 1) := by decide +kernel
theorem dL_law_715 : decode cL_law 715 = .ok (.iaload, 1) := by decide +kernel
theorem dL_law_716 : decode cL_law 716 = .ok (.aload_n 0, 1) := by decide +kernel
theorem dL_law_717 : decode cL_law 717 = .ok (.iload_n 3, 1) := by decide +kernel
theorem dL_law_718 : decode cL_law 718 = .ok (.iconst 4, 1) := by decide +kernel
theorem dL_law_719 : decode cL_law 719 = .ok (.iadd, 1) := by decide +kernel
theorem dL_law_720 : decode cL_law 720 = .ok (.iaload, 1) := by decide +kernel
theorem dL_law_721 : decode cL_law 721 = .ok (.invokevirtual 89, 3) := by decide +kernel
theorem dL_law_724 : decode cL_law 724 = .ok (.if_icmp .eq 364, 3) := by decide +kernel
theorem dL_law_727 : decode cL_law 727 = .ok (.iconst 0, 1) := by decide +kernel
theorem dL_law_728 : decode cL_law 728 = .ok (.ireturn, 1) := by decide +kernel
theorem dL_law_729 : decode cL_law 729 = .ok (.aload_n 1, 1) := by decide +kernel
theorem dL_law_730 : decode cL_law 730 = .ok (.aload_n 0, 1) := by decide +kernel
theorem dL_law_731 : decode cL_law 731 = .ok (.iload_n 3, 1) := by decide +kernel
theorem dL_law_732 : decode cL_law 732 = .ok (.iconst 1, 1) := by decide +kernel
theorem dL_law_733 : decode cL_law 733 = .ok (.iadd, 1) := by decide +kernel
theorem dL_law_734 : decode cL_law 734 = .ok (.iaload, 1) := by decide +kernel
theorem dL_law_735 : decode cL_law 735 = .ok (.aload_n 0, 1) := by decide +kernel
theorem dL_law_736 : decode cL_law 736 = .ok (.iload_n 3, 1) := by decide +kernel
theorem dL_law_737 : decode cL_law 737 = .ok (.iconst 2, 1) := by decide +kernel
theorem dL_law_738 : decode cL_law 738 = .ok (.iadd, 1) := by decide +kernel
theorem dL_law_739 : decode cL_law 739 = .ok (.iaload, 1) := by decide +kernel
theorem dL_law_740 : decode cL_law 740 = .ok (.invokevirtual 90, 3) := by decide +kernel
theorem dL_law_743 : decode cL_law 743 = .ok (.aload_n 2, 1) := by decide +kernel
theorem dL_law_744 : decode cL_law 744 = .ok (.aload_n 0, 1) := by decide +kernel
theorem dL_law_745 : decode cL_law 745 = .ok (.iload_n 3, 1) := by decide +kernel
theorem dL_law_746 : decode cL_law 746 = .ok (.iconst 1, 1) := by decide +kernel
theorem dL_law_747 : decode cL_law 747 = .ok (.iadd, 1) := by decide +kernel
theorem dL_law_748 : decode cL_law 748 = .ok (.iaload, 1) := by decide +kernel
theorem dL_law_749 : decode cL_law 749 = .ok (.aload_n 0, 1) := by decide +kernel
theorem dL_law_750 : decode cL_law 750 = .ok (.iload_n 3, 1) := by decide +kernel
theorem dL_law_751 : decode cL_law 751 = .ok (.iconst 2, 1) := by decide +kernel
theorem dL_law_752 : decode cL_law 752 = .ok (.iadd, 1) := by decide +kernel
theorem dL_law_753 : decode cL_law 753 = .ok (.iaload, 1) := by decide +kernel
theorem dL_law_754 : decode cL_law 754 = .ok (.invokevirtual 93, 3) := by decide +kernel
theorem dL_law_757 : decode cL_law 757 = .ok (.if_icmp .eq 331, 3) := by decide +kernel
theorem dL_law_760 : decode cL_law 760 = .ok (.iconst 0, 1) := by decide +kernel
theorem dL_law_761 : decode cL_law 761 = .ok (.ireturn, 1) := by decide +kernel
theorem dL_law_762 : decode cL_law 762 = .ok (.aload_n 1, 1) := by decide +kernel
theorem dL_law_763 : decode cL_law 763 = .ok (.invokevirtual 94, 3) := by decide +kernel
theorem dL_law_766 : decode cL_law 766 = .ok (.aload_n 2, 1) := by decide +kernel
theorem dL_law_767 : decode cL_law 767 = .ok (.invokevirtual 97, 3) := by decide +kernel
theorem dL_law_770 : decode cL_law 770 = .ok (.if_icmp .eq 318, 3) := by decide +kernel
theorem dL_law_773 : decode cL_law 773 = .ok (.iconst 0, 1) := by decide +kernel
theorem dL_law_774 : decode cL_law 774 = .ok (.ireturn, 1) := by decide +kernel
theorem dL_law_775 : decode cL_law 775 = .ok (.aload_n 1, 1) := by decide +kernel
theorem dL_law_776 : decode cL_law 776 = .ok (.aload_n 0, 1) := by decide +kernel
theorem dL_law_777 : decode cL_law 777 = .ok (.iload_n 3, 1) := by decide +kernel
theorem dL_law_778 : decode cL_law 778 = .ok (.iconst 1, 1) := by decide +kernel
theorem dL_law_779 : decode cL_law 779 = .ok (.iadd, 1) := by decide +kernel
theorem dL_law_780 : decode cL_law 780 = .ok (.iaload, 1) := by decide +kernel
theorem dL_law_781 : decode cL_law 781 = .ok (.aload_n 0, 1) := by decide +kernel
theorem dL_law_782 : decode cL_law 782 = .ok (.iload_n 3, 1) := by decide +kernel
theorem dL_law_783 : decode cL_law 783 = .ok (.iconst 2, 1) := by decide +kernel
theorem dL_law_784 : decode cL_law 784 = .ok (.iadd, 1) := by decide +kernel
theorem dL_law_785 : decode cL_law 785 = .ok (.iaload, 1) := by decide +kernel
theorem dL_law_786 : decode cL_law 786 = .ok (.invokevirtual 98, 3) := by decide +kernel
theorem dL_law_789 : decode cL_law 789 = .ok (.aload_n 2, 1) := by decide +kernel
theorem dL_law_790 : decode cL_law 790 = .ok (.aload_n 0, 1) := by decide +kernel
theorem dL_law_791 : decode cL_law 791 = .ok (.iload_n 3, 1) := by decide +kernel
theorem dL_law_792 : decode cL_law 792 = .ok (.iconst 1, 1) := by decide +kernel
theorem dL_law_793 : decode cL_law 793 = .ok (.iadd, 1) := by decide +kernel
theorem dL_law_794 : decode cL_law 794 = .ok (.iaload, 1) := by decide +kernel
theorem dL_law_795 : decode cL_law 795 = .ok (.aload_n 0, 1) := by decide +kernel
theorem dL_law_796 : decode cL_law 796 = .ok (.iload_n 3, 1) := by decide +kernel
theorem dL_law_797 : decode cL_law 797 = .ok (.iconst 2, 1) := by decide +kernel
theorem dL_law_798 : decode cL_law 798 = .ok (.iadd, 1) := by decide +kernel
theorem dL_law_799 : decode cL_law 799 = .ok (.iaload, 1) := by decide +kernel
theorem dL_law_800 : decode cL_law 800 = .ok (.invokevirtual 101, 3) := by decide +kernel
theorem dL_law_803 : decode cL_law 803 = .ok (.if_icmp .eq 285, 3) := by decide +kernel
theorem dL_law_806 : decode cL_law 806 = .ok (.iconst 0, 1) := by decide +kernel
theorem dL_law_807 : decode cL_law 807 = .ok (.ireturn, 1) := by decide +kernel
theorem dL_law_808 : decode cL_law 808 = .ok (.aload_n 1, 1) := by decide +kernel
theorem dL_law_809 : decode cL_law 809 = .ok (.aload_n 0, 1) := by decide +kernel
theorem dL_law_810 : decode cL_law 810 = .ok (.iload_n 3, 1) := by decide +kernel
theorem dL_law_811 : decode cL_law 811 = .ok (.iconst 1, 1) := by decide +kernel
theorem dL_law_812 : decode cL_law 812 = .ok (.iadd, 1) := by decide +kernel
theorem dL_law_813 : decode cL_law 813 = .ok (.iaload, 1) := by decide +kernel
theorem dL_law_814 : decode cL_law 814 = .ok (.aload_n 0, 1) := by decide +kernel
theorem dL_law_815 : decode cL_law 815 = .ok (.iload_n 3, 1) := by decide +kernel
theorem dL_law_816 : decode cL_law 816 = .ok (.iconst 2, 1) := by decide +kernel
theorem dL_law_817 : decode cL_law 817 = .ok (.iadd, 1) := by decide +kernel
theorem dL_law_818 : decode cL_law 818 = .ok (.iaload, 1) := by decide +kernel
theorem dL_law_819 : decode cL_law 819 = .ok (.aload_n 0, 1) := by decide +kernel
theorem dL_law_820 : decode cL_law 820 = .ok (.iload_n 3, 1) := by decide +kernel
theorem dL_law_821 : decode cL_law 821 = .ok (.iconst 3, 1) := by decide +kernel
theorem dL_law_822 : decode cL_law 822 = .ok (.iadd, 1) := by decide +kernel
theorem dL_law_823 : decode cL_law 823 = .ok (.iaload, 1) := by decide +kernel
theorem dL_law_824 : decode cL_law 824 = .ok (.aload_n 0, 1) := by decide +kernel
theorem dL_law_825 : decode cL_law 825 = .ok (.iload_n 3, 1) := by decide +kernel
theorem dL_law_826 : decode cL_law 826 = .ok (.iconst 4, 1) := by decide +kernel
theorem dL_law_827 : decode cL_law 827 = .ok (.iadd, 1) := by decide +kernel
theorem dL_law_828 : decode cL_law 828 = .ok (.iaload, 1) := by decide +kernel
theorem dL_law_829 : decode cL_law 829 = .ok (.invokevirtual 102, 3) := by decide +kernel
theorem dL_law_832 : decode cL_law 832 = .ok (.aload_n 2, 1) := by decide +kernel
theorem dL_law_833 : decode cL_law 833 = .ok (.aload_n 0, 1) := by decide +kernel
theorem dL_law_834 : decode cL_law 834 = .ok (.iload_n 3, 1) := by decide +kernel
theorem dL_law_835 : decode cL_law 835 = .ok (.iconst 1, 1) := by decide +kernel
theorem dL_law_836 : decode cL_law 836 = .ok (.iadd, 1) := by decide +kernel
theorem dL_law_837 : decode cL_law 837 = .ok (.iaload, 1) := by decide +kernel
theorem dL_law_838 : decode cL_law 838 = .ok (.aload_n 0, 1) := by decide +kernel
theorem dL_law_839 : decode cL_law 839 = .ok (.iload_n 3, 1) := by decide +kernel
theorem dL_law_840 : decode cL_law 840 = .ok (.iconst 2, 1) := by decide +kernel
theorem dL_law_841 : decode cL_law 841 = .ok (.iadd, 1) := by decide +kernel
theorem dL_law_842 : decode cL_law 842 = .ok (.iaload, 1) := by decide +kernel
theorem dL_law_843 : decode cL_law 843 = .ok (.aload_n 0, 1) := by decide +kernel
theorem dL_law_844 : decode cL_law 844 = .ok (.iload_n 3, 1) := by decide +kernel
theorem dL_law_845 : decode cL_law 845 = .ok (.iconst 3, 1) := by decide +kernel
theorem dL_law_846 : decode cL_law 846 = .ok (.iadd, 1) := by decide +kernel
theorem dL_law_847 : decode cL_law 847 = .ok (.iaload, 1) := by decide +kernel
theorem dL_law_848 : decode cL_law 848 = .ok (.aload_n 0, 1) := by decide +kernel
theorem dL_law_849 : decode cL_law 849 = .ok (.iload_n 3, 1) := by decide +kernel
theorem dL_law_850 : decode cL_law 850 = .ok (.iconst 4, 1) := by decide +kernel
theorem dL_law_851 : decode cL_law 851 = .ok (.iadd, 1) := by decide +kernel
theorem dL_law_852 : decode cL_law 852 = .ok (.iaload, 1) := by decide +kernel
theorem dL_law_853 : decode cL_law 853 = .ok (.invokevirtual 105, 3) := by decide +kernel
theorem dL_law_856 : decode cL_law 856 = .ok (.if_icmp .eq 232, 3) := by decide +kernel
theorem dL_law_859 : decode cL_law 859 = .ok (.iconst 0, 1) := by decide +kernel
theorem dL_law_860 : decode cL_law 860 = .ok (.ireturn, 1) := by decide +kernel
theorem dL_law_861 : decode cL_law 861 = .ok (.aload_n 1, 1) := by decide +kernel
theorem dL_law_862 : decode cL_law 862 = .ok (.aload_n 0, 1) := by decide +kernel
theorem dL_law_863 : decode cL_law 863 = .ok (.iload_n 3, 1) := by decide +kernel
theorem dL_law_864 : decode cL_law 864 = .ok (.iconst 1, 1) := by decide +kernel
theorem dL_law_865 : decode cL_law 865 = .ok (.iadd, 1) := by decide +kernel
theorem dL_law_866 : decode cL_law 866 = .ok (.iaload, 1) := by decide +kernel
theorem dL_law_867 : decode cL_law 867 = .ok (.aload_n 0, 1) := by decide +kernel
theorem dL_law_868 : decode cL_law 868 = .ok (.iload_n 3, 1) := by decide +kernel
theorem dL_law_869 : decode cL_law 869 = .ok (.iconst 2, 1) := by decide +kernel
theorem dL_law_870 : decode cL_law 870 = .ok (.iadd, 1) := by decide +kernel
theorem dL_law_871 : decode cL_law 871 = .ok (.iaload, 1) := by decide +kernel
theorem dL_law_872 : decode cL_law 872 = .ok (.invokevirtual 106, 3) := by decide +kernel
theorem dL_law_875 : decode cL_law 875 = .ok (.aload_n 2, 1) := by decide +kernel
theorem dL_law_876 : decode cL_law 876 = .ok (.aload_n 0, 1) := by decide +kernel
theorem dL_law_877 : decode cL_law 877 = .ok (.iload_n 3, 1) := by decide +kernel
theorem dL_law_878 : decode cL_law 878 = .ok (.iconst 1, 1) := by decide +kernel
theorem dL_law_879 : decode cL_law 879 = .ok (.iadd, 1) := by decide +kernel
theorem dL_law_880 : decode cL_law 880 = .ok (.iaload, 1) := by decide +kernel
theorem dL_law_881 : decode cL_law 881 = .ok (.aload_n 0, 1) := by decide +kernel
theorem dL_law_882 : decode cL_law 882 = .ok (.iload_n 3, 1) := by decide +kernel
theorem dL_law_883 : decode cL_law 883 = .ok (.iconst 2, 1) := by decide +kernel
theorem dL_law_884 : decode cL_law 884 = .ok (.iadd, 1) := by decide +kernel
theorem dL_law_885 : decode cL_law 885 = .ok (.iaload, 1) := by decide +kernel
theorem dL_law_886 : decode cL_law 886 = .ok (.invokevirtual 109, 3) := by decide +kernel
theorem dL_law_889 : decode cL_law 889 = .ok (.if_icmp .eq 199, 3) := by decide +kernel
theorem dL_law_892 : decode cL_law 892 = .ok (.iconst 0, 1) := by decide +kernel
theorem dL_law_893 : decode cL_law 893 = .ok (.ireturn, 1) := by decide +kernel
theorem dL_law_894 : decode cL_law 894 = .ok (.aload_n 1, 1) := by decide +kernel
theorem dL_law_895 : decode cL_law 895 = .ok (.aload_n 0, 1) := by decide +kernel
theorem dL_law_896 : decode cL_law 896 = .ok (.iload_n 3, 1) := by decide +kernel
theorem dL_law_897 : decode cL_law 897 = .ok (.iconst 1, 1) := by decide +kernel
theorem dL_law_898 : decode cL_law 898 = .ok (.iadd, 1) := by decide +kernel
theorem dL_law_899 : decode cL_law 899 = .ok (.iaload, 1) := by decide +kernel
theorem dL_law_900 : decode cL_law 900 = .ok (.invokevirtual 110, 3) := by decide +kernel
theorem dL_law_903 : decode cL_law 903 = .ok (.aload_n 2, 1) := by decide +kernel
theorem dL_law_904 : decode cL_law 904 = .ok (.aload_n 0, 1) := by decide +kernel
theorem dL_law_905 : decode cL_law 905 = .ok (.iload_n 3, 1) := by decide +kernel
theorem dL_law_906 : decode cL_law 906 = .ok (.iconst 1, 1) := by decide +kernel
theorem dL_law_907 : decode cL_law 907 = .ok (.iadd, 1) := by decide +kernel
theorem dL_law_908 : decode cL_law 908 = .ok (.iaload, 1) := by decide +kernel
theorem dL_law_909 : decode cL_law 909 = .ok (.invokevirtual 113, 3) := by decide +kernel
theorem dL_law_912 : decode cL_law 912 = .ok (.if_icmp .eq 176, 3) := by decide +kernel
theorem dL_law_915 : decode cL_law 915 = .ok (.iconst 0, 1) := by decide +kernel
theorem dL_law_916 : decode cL_law 916 = .ok (.ireturn, 1) := by decide +kernel
theorem dL_law_917 : decode cL_law 917 = .ok (.aload_n 1, 1) := by decide +kernel
theorem dL_law_918 : decode cL_law 918 = .ok (.aload_n 0, 1) := by decide +kernel
theorem dL_law_919 : decode cL_law 919 = .ok (.iload_n 3, 1) := by decide +kernel
theorem dL_law_920 : decode cL_law 920 = .ok (.iconst 1, 1) := by decide +kernel
theorem dL_law_921 : decode cL_law 921 = .ok (.iadd, 1) := by decide +kernel
theorem dL_law_922 : decode cL_law 922 = .ok (.iaload, 1) := by decide +kernel
theorem dL_law_923 : decode cL_law 923 = .ok (.invokevirtual 114, 3) := by decide +kernel
theorem dL_law_926 : decode cL_law 926 = .ok (.aload_n 2, 1) := by decide +kernel
theorem dL_law_927 : decode cL_law 927 = .ok (.aload_n 0, 1) := by decide +kernel
theorem dL_law_928 : decode cL_law 928 = .ok (.iload_n 3, 1) := by decide +kernel
theorem dL_law_929 : decode cL_law 929 = .ok (.iconst 1, 1) := by decide +kernel
theorem dL_law_930 : decode cL_law 930 = .ok (.iadd, 1) := by decide +kernel
theorem dL_law_931 : decode cL_law 931 = .ok (.iaload, 1) := by decide +kernel
theorem dL_law_932 : decode cL_law 932 = .ok (.invokevirtual 117, 3) := by decide +kernel
theorem dL_law_935 : decode cL_law 935 = .ok (.if_icmp .eq 153, 3) := by decide +kernel
theorem dL_law_938 : decode cL_law 938 = .ok (.iconst 0, 1) := by decide +kernel
theorem dL_law_939 : decode cL_law 939 = .ok (.ireturn, 1) := by decide +kernel
theorem dL_law_940 : decode cL_law 940 = .ok (.aload_n 1, 1) := by decide +kernel
theorem dL_law_941 : decode cL_law 941 = .ok (.aload_n 0, 1) := by decide +kernel
theorem dL_law_942 : decode cL_law 942 = .ok (.iload_n 3, 1) := by decide +kernel
theorem dL_law_943 : decode cL_law 943 = .ok (.iconst 1, 1) := by decide +kernel
theorem dL_law_944 : decode cL_law 944 = .ok (.iadd, 1) := by decide +kernel
theorem dL_law_945 : decode cL_law 945 = .ok (.iaload, 1) := by decide +kernel
theorem dL_law_946 : decode cL_law 946 = .ok (.invokevirtual 118, 3) := by decide +kernel
theorem dL_law_949 : decode cL_law 949 = .ok (.aload_n 2, 1) := by decide +kernel
theorem dL_law_950 : decode cL_law 950 = .ok (.aload_n 0, 1) := by decide +kernel
theorem dL_law_951 : decode cL_law 951 = .ok (.iload_n 3, 1) := by decide +kernel
theorem dL_law_952 : decode cL_law 952 = .ok (.iconst 1, 1) := by decide +kernel
theorem dL_law_953 : decode cL_law 953 = .ok (.iadd, 1) := by decide +kernel
theorem dL_law_954 : decode cL_law 954 = .ok (.iaload, 1) := by decide +kernel
theorem dL_law_955 : decode cL_law 955 = .ok (.invokevirtual 121, 3) := by decide +kernel
theorem dL_law_958 : decode cL_law 958 = .ok (.if_icmp .eq 130, 3) := by decide +kernel
theorem dL_law_961 : decode cL_law 961 = .ok (.iconst 0, 1) := by decide +kernel
theorem dL_law_962 : decode cL_law 962 = .ok (.ireturn, 1) := by decide +kernel
theorem dL_law_963 : decode cL_law 963 = .ok (.aload_n 1, 1) := by decide +kernel
theorem dL_law_964 : decode cL_law 964 = .ok (.aload_n 0, 1) := by decide +kernel
theorem dL_law_965 : decode cL_law 965 = .ok (.iload_n 3, 1) := by decide +kernel
theorem dL_law_966 : decode cL_law 966 = .ok (.iconst 1, 1) := by decide +kernel
theorem dL_law_967 : decode cL_law 967 = .ok (.iadd, 1) := by decide +kernel
theorem dL_law_968 : decode cL_law 968 = .ok (.iaload, 1) := by decide +kernel
theorem dL_law_969 : decode cL_law 969 = .ok (.aload_n 0, 1) := by decide +kernel
theorem dL_law_970 : decode cL_law 970 = .ok (.iload_n 3, 1) := by decide +kernel
theorem dL_law_971 : decode cL_law 971 = .ok (.iconst 2, 1) := by decide +kernel
theorem dL_law_972 : decode cL_law 972 = .ok (.iadd, 1) := by decide +kernel
theorem dL_law_973 : decode cL_law 973 = .ok (.iaload, 1) := by decide +kernel
theorem dL_law_974 : decode cL_law 974 = .ok (.invokevirtual 122, 3) := by decide +kernel
theorem dL_law_977 : decode cL_law 977 = .ok (.aload_n 2, 1) := by decide +kernel
theorem dL_law_978 : decode cL_law 978 = .ok (.aload_n 0, 1) := by decide +kernel
theorem dL_law_979 : decode cL_law 979 = .ok (.iload_n 3, 1) := by decide +kernel
theorem dL_law_980 : decode cL_law 980 = .ok (.iconst 1, 1) := by decide +kernel
theorem dL_law_981 : decode cL_law 981 = .ok (.iadd, 1) := by decide +kernel
theorem dL_law_982 : decode cL_law 982 = .ok (.iaload, 1) := by decide +kernel
theorem dL_law_983 : decode cL_law 983 = .ok (.aload_n 0, 1) := by decide +kernel
theorem dL_law_984 : decode cL_law 984 = .ok (.iload_n 3, 1) := by decide +kernel
theorem dL_law_985 : decode cL_law 985 = .ok (.iconst 2, 1) := by decide +kernel
theorem dL_law_986 : decode cL_law 986 = .ok (.iadd, 1) := by decide +kernel
theorem dL_law_987 : decode cL_law 987 = .ok (.iaload, 1) := by decide +kernel
theorem dL_law_988 : decode cL_law 988 = .ok (.invokevirtual 125, 3) := by decide +kernel
theorem dL_law_991 : decode cL_law 991 = .ok (.if_icmp .eq 97, 3) := by decide +kernel
theorem dL_law_994 : decode cL_law 994 = .ok (.iconst 0, 1) := by decide +kernel
theorem dL_law_995 : decode cL_law 995 = .ok (.ireturn, 1) := by decide +kernel
theorem dL_law_996 : decode cL_law 996 = .ok (.aload_n 1, 1) := by decide +kernel
theorem dL_law_997 : decode cL_law 997 = .ok (.aload_n 0, 1) := by decide +kernel
theorem dL_law_998 : decode cL_law 998 = .ok (.iload_n 3, 1) := by decide +kernel
theorem dL_law_999 : decode cL_law 999 = .ok (.iconst 1, 1) := by decide +kernel
theorem dL_law_1000 : decode cL_law 1000 = .ok (.iadd, 1) := by decide +kernel
theorem dL_law_1001 : decode cL_law 1001 = .ok (.iaload, 1) := by decide +kernel
theorem dL_law_1002 : decode cL_law 1002 = .ok (.aload_n 0, 1) := by decide +kernel
theorem dL_law_1003 : decode cL_law 1003 = .ok (.iload_n 3, 1) := by decide +kernel
theorem dL_law_1004 : decode cL_law 1004 = .ok (.iconst 2, 1) := by decide +kernel
theorem dL_law_1005 : decode cL_law 1005 = .ok (.iadd, 1) := by decide +kernel
theorem dL_law_1006 : decode cL_law 1006 = .ok (.iaload, 1) := by decide +kernel
theorem dL_law_1007 : decode cL_law 1007 = .ok (.invokevirtual 126, 3) := by decide +kernel
theorem dL_law_1010 : decode cL_law 1010 = .ok (.aload_n 2, 1) := by decide +kernel
theorem dL_law_1011 : decode cL_law 1011 = .ok (.aload_n 0, 1) := by decide +kernel
theorem dL_law_1012 : decode cL_law 1012 = .ok (.iload_n 3, 1) := by decide +kernel
theorem dL_law_1013 : decode cL_law 1013 = .ok (.iconst 1, 1) := by decide +kernel
theorem dL_law_1014 : decode cL_law 1014 = .ok (.iadd, 1) := by decide +kernel
theorem dL_law_1015 : decode cL_law 1015 = .ok (.iaload, 1) := by decide +kernel
theorem dL_law_1016 : decode cL_law 1016 = .ok (.aload_n 0, 1) := by decide +kernel
theorem dL_law_1017 : decode cL_law 1017 = .ok (.iload_n 3, 1) := by decide +kernel
theorem dL_law_1018 : decode cL_law 1018 = .ok (.iconst 2, 1) := by decide +kernel
theorem dL_law_1019 : decode cL_law 1019 = .ok (.iadd, 1) := by decide +kernel
theorem dL_law_1020 : decode cL_law 1020 = .ok (.iaload, 1) := by decide +kernel
theorem dL_law_1021 : decode cL_law 1021 = .ok (.invokevirtual 129, 3) := by decide +kernel
theorem dL_law_1024 : decode cL_law 1024 = .ok (.if_icmp .eq 64, 3) := by decide +kernel
theorem dL_law_1027 : decode cL_law 1027 = .ok (.iconst 0, 1) := by decide +kernel
theorem dL_law_1028 : decode cL_law 1028 = .ok (.ireturn, 1) := by decide +kernel
theorem dL_law_1029 : decode cL_law 1029 = .ok (.aload_n 1, 1) := by decide +kernel
theorem dL_law_1030 : decode cL_law 1030 = .ok (.aload_n 0, 1) := by decide +kernel
theorem dL_law_1031 : decode cL_law 1031 = .ok (.iload_n 3, 1) := by decide +kernel
theorem dL_law_1032 : decode cL_law 1032 = .ok (.iconst 1, 1) := by decide +kernel
theorem dL_law_1033 : decode cL_law 1033 = .ok (.iadd, 1) := by decide +kernel
theorem dL_law_1034 : decode cL_law 1034 = .ok (.iaload, 1) := by decide +kernel
theorem dL_law_1035 : decode cL_law 1035 = .ok (.invokevirtual 130, 3) := by decide +kernel
theorem dL_law_1038 : decode cL_law 1038 = .ok (.aload_n 2, 1) := by decide +kernel
theorem dL_law_1039 : decode cL_law 1039 = .ok (.aload_n 0, 1) := by decide +kernel
theorem dL_law_1040 : decode cL_law 1040 = .ok (.iload_n 3, 1) := by decide +kernel
theorem dL_law_1041 : decode cL_law 1041 = .ok (.iconst 1, 1) := by decide +kernel
theorem dL_law_1042 : decode cL_law 1042 = .ok (.iadd, 1) := by decide +kernel
theorem dL_law_1043 : decode cL_law 1043 = .ok (.iaload, 1) := by decide +kernel
theorem dL_law_1044 : decode cL_law 1044 = .ok (.invokevirtual 133, 3) := by decide +kernel
theorem dL_law_1047 : decode cL_law 1047 = .ok (.if_icmp .eq 41, 3) := by decide +kernel
theorem dL_law_1050 : decode cL_law 1050 = .ok (.iconst 0, 1) := by decide +kernel
theorem dL_law_1051 : decode cL_law 1051 = .ok (.ireturn, 1) := by decide +kernel
theorem dL_law_1052 : decode cL_law 1052 = .ok (.aload_n 1, 1) := by decide +kernel
theorem dL_law_1053 : decode cL_law 1053 = .ok (.aload_n 0, 1) := by decide +kernel
theorem dL_law_1054 : decode cL_law 1054 = .ok (.iload_n 3, 1) := by decide +kernel
theorem dL_law_1055 : decode cL_law 1055 = .ok (.iconst 1, 1) := by decide +kernel
theorem dL_law_1056 : decode cL_law 1056 = .ok (.iadd, 1) := by decide +kernel
theorem dL_law_1057 : decode cL_law 1057 = .ok (.iaload, 1) := by decide +kernel
theorem dL_law_1058 : decode cL_law 1058 = .ok (.invokevirtual 134, 3) := by decide +kernel
theorem dL_law_1061 : decode cL_law 1061 = .ok (.aload_n 2, 1) := by decide +kernel
theorem dL_law_1062 : decode cL_law 1062 = .ok (.aload_n 0, 1) := by decide +kernel
theorem dL_law_1063 : decode cL_law 1063 = .ok (.iload_n 3, 1) := by decide +kernel
theorem dL_law_1064 : decode cL_law 1064 = .ok (.iconst 1, 1) := by decide +kernel
theorem dL_law_1065 : decode cL_law 1065 = .ok (.iadd, 1) := by decide +kernel
theorem dL_law_1066 : decode cL_law 1066 = .ok (.iaload, 1) := by decide +kernel
theorem dL_law_1067 : decode cL_law 1067 = .ok (.invokevirtual 137, 3) := by decide +kernel
theorem dL_law_1070 : decode cL_law 1070 = .ok (.if_icmp .eq 18, 3) := by decide +kernel
theorem dL_law_1073 : decode cL_law 1073 = .ok (.iconst 0, 1) := by decide +kernel
theorem dL_law_1074 : decode cL_law 1074 = .ok (.ireturn, 1) := by decide +kernel
theorem dL_law_1075 : decode cL_law 1075 = .ok (.aload_n 1, 1) := by decide +kernel
theorem dL_law_1076 : decode cL_law 1076 = .ok (.invokevirtual 138, 3) := by decide +kernel
theorem dL_law_1079 : decode cL_law 1079 = .ok (.aload_n 2, 1) := by decide +kernel
theorem dL_law_1080 : decode cL_law 1080 = .ok (.invokevirtual 141, 3) := by decide +kernel
theorem dL_law_1083 : decode cL_law 1083 = .ok (.if_icmp .eq 5, 3) := by decide +kernel
theorem dL_law_1086 : decode cL_law 1086 = .ok (.iconst 0, 1) := by decide +kernel
theorem dL_law_1087 : decode cL_law 1087 = .ok (.ireturn, 1) := by decide +kernel
theorem dL_law_1088 : decode cL_law 1088 = .ok (.iinc 3 6, 3) := by decide +kernel
theorem dL_law_1091 : decode cL_law 1091 = .ok (.goto (-1073), 3) := by decide +kernel
theorem dL_law_1094 : decode cL_law 1094 = .ok (.iconst 1, 1) := by decide +kernel
theorem dL_law_1095 : decode cL_law 1095 = .ok (.ireturn, 1) := by decide +kernel
end
section
/-! THE ABSTRACT MACHINE: a method's walk over a world of cells numbered 0 .. N - 1 (cell k at the address ad k, what it holds: g k) -/
abbrev ax_T : Type := (Program × Launch × Env × Room) × (State × MethodId × Array Value) × (List Frame × Method × Code)
abbrev ax_Y : Type := va_G × (Nat → ClassId) × State
/-- a method: name, bytes, locals, what it returns -/
abbrev ax_I : Type := MethodName × ByteArray × Nat × Option FieldType
abbrev ax_W (x : ax_T) (H : Heap) (locs : List Loc) (kc ks : Nat) (Q : State → Prop) (g : JFrame) : Prop := W x.1.1 x.1.2.1 x.1.2.2.1 x.1.2.2.2 x.2.1.1 x.2.1.2.1 x.2.1.2.2 x.2.2.1 x.2.2.2.1 x.2.2.2.2 H locs kc ks Q g
def ax_tys (cA : Nat → ClassId) : List (ClassId × FieldType) := [(cA 0, .int), (cA 1, .byte), (cA 2, .boolean), (cA 3, .object "FirstCart$Row"), (cA 4, .object "FirstCart$Pass")]
def ax_tb : List Cond := lw_tbl.filter goodWord
/-- which addresses are ours -/
abbrev ax_A (Y : ax_Y) : Nat → Prop := fun q => Y.2.2.heap.size ≤ q
def ax_hw (ad : Nat → Nat) (N : Nat) (g : Nat → va_E) : va_W := (List.range N).map (fun k => (ad k, g k))
theorem ax_hw_get {ad : Nat → Nat} {N k : Nat} {g : Nat → va_E} (h : k < N) : (ax_hw ad N g)[k]? = some (ad k, g k) := by simp [ax_hw, h]
theorem ax_hw_lt {ad : Nat → Nat} {N k : Nat} {g : Nat → va_E} {q : Nat × va_E} (h : (ax_hw ad N g)[k]? = some q) : k < N ∧ q = (ad k, g k) := by
  by_cases hk : k < N
  · rw [ax_hw_get hk] at h
    exact ⟨hk, (Option.some.inj h).symm⟩
  · simp [ax_hw, hk] at h
theorem ax_hw_set {ad : Nat → Nat} {N k : Nat} {g : Nat → va_E} {e : va_E} : (ax_hw ad N g).set k (ad k, e) = ax_hw ad N (va_up g k e) := by
  apply List.ext_getElem?
  intro j
  by_cases hj : j < N
  · by_cases hjk : j = k
    · subst hjk
      rw [List.getElem?_set_self (by simp [ax_hw, hj]), ax_hw_get hj]
      simp [va_up]
    · rw [List.getElem?_set_ne (Ne.symm hjk), ax_hw_get hj, ax_hw_get hj]
      simp [va_up, hjk]
  · rw [List.getElem?_eq_none (by simp [ax_hw]; omega), List.getElem?_eq_none (by simp [ax_hw]; omega)]
theorem ax_hw_push {ad : Nat → Nat} {N q : Nat} {g : Nat → va_E} {e : va_E} : ax_hw ad N g ++ [(q, e)] = ax_hw (va_up ad N q) (N + 1) (va_up g N e) := by
  simp only [ax_hw, List.range_succ, List.map_append, List.map_cons, List.map_nil]
  congr 1
  · apply List.map_congr_left
    intro a ha
    have : a < N := List.mem_range.mp ha
    simp [va_up, Nat.ne_of_lt this]
  · simp [va_up]
theorem ax_D_any {A : Nat → Prop} {ad : Nat → Nat} {N : Nat} {g g' : Nat → va_E} (h : va_D A (ax_hw ad N g)) : va_D A (ax_hw ad N g') := by
  refine ⟨fun i j p q hi hj e => ?_, fun k q hk => ?_⟩
  · obtain ⟨h1, rfl⟩ := ax_hw_lt hi
    obtain ⟨h2, rfl⟩ := ax_hw_lt hj
    exact h.1 i j (ad i, g i) (ad j, g j) (ax_hw_get h1) (ax_hw_get h2) e
  · obtain ⟨h1, rfl⟩ := ax_hw_lt hk
    exact h.2 k (ad k, g k) (ax_hw_get h1)
/-- what holds of the start s0 of the law -/
def ax_F (Y : ax_Y) : Prop := ∃ b : Nat, (∀ w ∈ lw_tbl, w.before #[Value.ref b] Y.2.2 = true) ∧ va_K Y.1 vwCl (ax_tys Y.2.1) Y.2.2 ∧ (Jvm.Cond.and given_1 narrow_1).before #[Value.ref b] Y.2.2 = true
/-- what holds of every later state -/
def ax_Kx (Y : ax_Y) (U : State) : Prop := Y.2.2.WarmedH U.vm ∧ va_S (ax_A Y) Y.2.2.heap U.heap []
theorem ax_word {Y : ax_Y} (F : ax_F Y) {U : State} (hW : Y.2.2.WarmedH U.vm) (args : Array Value) : ∀ w ∈ ax_tb, w.before args U = true := by
  obtain ⟨b, hts, -, -⟩ := F
  intro w hw
  obtain ⟨h1, h2⟩ := List.mem_filter.mp hw
  exact word_at hW (good_of_word h2) (hts w h1)
def ax_L (ls : Array Slot) (L : List (Option Value)) : Prop := ls.size = L.length ∧ lv_wf ls ∧ ∀ (i : Nat) (v : Value), L[i]? = some (some v) → ls[i]? = some (.val v)
def ax_as (L : List (Option Value)) : List (Nat × Value) := (List.range L.length).filterMap (fun i => (L.getD i none).map (fun v => (i, v)))
theorem ax_as_mem {L : List (Option Value)} {q : Nat × Value} : q ∈ ax_as L ↔ L[q.1]? = some (some q.2) := by
  obtain ⟨i, v⟩ := q
  simp only [ax_as, List.mem_filterMap, List.mem_range, Option.map_eq_some_iff, Prod.mk.injEq]
  constructor
  · rintro ⟨a, ha, w, hw, rfl, rfl⟩
    rw [List.getD_eq_getElem?_getD] at hw
    rw [List.getElem?_eq_getElem ha] at hw ⊢
    simpa using hw
  · intro h
    refine ⟨i, (List.getElem?_eq_some_iff.mp h).1, v, ?_, rfl, rfl⟩
    rw [List.getD_eq_getElem?_getD, h]
    rfl
theorem ax_has {ls : Array Slot} {L : List (Option Value)} (h : ax_L ls L) : lv_has ls L.length (ax_as L) := ⟨h.1, h.2.1, fun q hq => h.2.2 q.1 q.2 (ax_as_mem.mp hq)⟩
theorem ax_hsub {ls : Array Slot} {n : Nat} {l l' : List (Nat × Value)} (h : lv_has ls n l) (hs : ∀ q ∈ l', q ∈ l) : lv_has ls n l' := ⟨h.1, h.2.1, fun q hq => h.2.2 q (hs q hq)⟩
def ax_ok (o : Option Value) : Bool := match o with
  | some v => v.category == 1
  | none => true
theorem ax_okw {o : Option Value} {w : Value} (h : ax_ok o = true) (e : o = some w) : w.category = 1 := by
  subst e
  simpa [ax_ok] using h
theorem ax_Lset {ls' : Array Slot} {L : List (Option Value)} {i : Nat} {v : Value} (hi : i < L.length) (hp : ∀ w, L[i - 1]? = some (some w) → 0 < i → w.category = 1)
    (h : lv_has ls' L.length ((i, v) :: (ax_as L).filter (fun q => !(q.1 == i) && !(q.1 + 1 == i && q.2.category == 2)))) : ax_L ls' (L.set i (some v)) := by
  refine ⟨by rw [List.length_set]; exact h.1, h.2.1, fun j w hj => ?_⟩
  by_cases e : j = i
  · subst e
    rw [List.getElem?_set_self hi] at hj
    cases hj
    exact h.2.2 (j, v) List.mem_cons_self
  · rw [List.getElem?_set_ne (Ne.symm e)] at hj
    refine h.2.2 (j, w) (List.mem_cons_of_mem _ (List.mem_filter.mpr ⟨ax_as_mem.mpr hj, ?_⟩))
    by_cases e2 : j + 1 = i
    · subst e2
      simp [e, hp w (by simpa using hj) (Nat.succ_pos j)]
    · simp [e, e2]
theorem ax_Lset2 {ls' : Array Slot} {L : List (Option Value)} {i : Nat} {v : Value} (hi : i + 1 < L.length) (hp : ∀ w, L[i - 1]? = some (some w) → 0 < i → w.category = 1)
    (h : lv_has ls' L.length ((i, v) :: (ax_as L).filter (fun q => !(q.1 == i) && (!(q.1 == i + 1) && !(q.1 + 1 == i && q.2.category == 2))))) : ax_L ls' ((L.set i (some v)).set (i + 1) none) := by
  refine ⟨by rw [List.length_set, List.length_set]; exact h.1, h.2.1, fun j w hj => ?_⟩
  by_cases e1 : j = i + 1
  · subst e1
    rw [List.getElem?_set_self (by rw [List.length_set]; exact hi)] at hj
    cases hj
  · rw [List.getElem?_set_ne (Ne.symm e1)] at hj
    by_cases e : j = i
    · subst e
      rw [List.getElem?_set_self (by omega)] at hj
      cases hj
      exact h.2.2 (j, v) List.mem_cons_self
    · rw [List.getElem?_set_ne (Ne.symm e)] at hj
      refine h.2.2 (j, w) (List.mem_cons_of_mem _ (List.mem_filter.mpr ⟨ax_as_mem.mpr hj, ?_⟩))
      by_cases e2 : j + 1 = i
      · subst e2
        simp [e, e1, hp w (by simpa using hj) (Nat.succ_pos j)]
      · simp [e, e1, e2]
/-- the walk -/
def ax_V (x : ax_T) (Y : ax_Y) (ad : Nat → Nat) (kc ks : Nat) (Q : State → Prop) (N : Nat) (g : Nat → va_E) (pc : Nat) (L : List (Option Value)) (st : List Value) : Prop :=
  ∀ (H : Heap) (ls : Array Slot) (locs : List Loc), va_P Y.1 vwCl (ax_hw ad N g) H → va_D (ax_A Y) (ax_hw ad N g) → va_S (ax_A Y) Y.2.2.heap H locs → ax_L ls L → ax_W x H locs kc ks Q (F0 x.2.1.2.1 pc ls st)
/-- what is fixed in a method's body: i the method, h how many frames stand over it at most, mc ms what it may make -/
def ax_C (x : ax_T) (Y : ax_Y) (i : ax_I) (h mc ms : Nat) : Prop :=
  x.1.1.tables.exec = Jvm.exec ∧ x.2.2.2.2.code = i.2.1 ∧ x.2.2.2.2.maxLocals = i.2.2.1 ∧ x.2.1.1.vm.findClass i.1.cls = some x.2.1.2.1.cls ∧ (∀ w ∈ ax_tb, w.before x.2.1.2.2 x.2.1.1 = true) ∧ va_K Y.1 vwCl (ax_tys Y.2.1) x.2.1.1 ∧
  x.2.2.2.1.sig.returnType = i.2.2.2 ∧ x.2.2.2.1.locks = false ∧ (h ≤ x.1.2.2.2.frames ∧ 64 * h ≤ x.1.2.2.2.locals ∧ x.1.2.2.2.cells = mc ∧ x.1.2.2.2.slots = ms) ∧ ax_Kx Y x.2.1.1 ∧ ax_F Y ∧ (i.1.name = "<init>" → x.2.2.2.1.name = "<init>")
section AX
variable {x : ax_T} {Y : ax_Y} {ad : Nat → Nat} {i : ax_I} {h mc ms kc ks N pc : Nat} {Q : State → Prop} {g : Nat → va_E} {L : List (Option Value)} {st : List Value}
theorem ax_C.exec (C : ax_C x Y i h mc ms) : x.1.1.tables.exec = Jvm.exec := C.1
theorem ax_C.bytes (C : ax_C x Y i h mc ms) : x.2.2.2.2.code = i.2.1 := C.2.1
theorem ax_C.maxL (C : ax_C x Y i h mc ms) : x.2.2.2.2.maxLocals = i.2.2.1 := C.2.2.1
theorem ax_C.own (C : ax_C x Y i h mc ms) : x.2.1.1.vm.findClass i.1.cls = some x.2.1.2.1.cls := C.2.2.2.1
theorem ax_C.hts (C : ax_C x Y i h mc ms) : ∀ w ∈ ax_tb, w.before x.2.1.2.2 x.2.1.1 = true := C.2.2.2.2.1
theorem ax_C.hK (C : ax_C x Y i h mc ms) : va_K Y.1 vwCl (ax_tys Y.2.1) x.2.1.1 := C.2.2.2.2.2.1
theorem ax_C.ret (C : ax_C x Y i h mc ms) : x.2.2.2.1.sig.returnType = i.2.2.2 := C.2.2.2.2.2.2.1
theorem ax_C.locks (C : ax_C x Y i h mc ms) : x.2.2.2.1.locks = false := C.2.2.2.2.2.2.2.1
theorem ax_C.room (C : ax_C x Y i h mc ms) : h ≤ x.1.2.2.2.frames ∧ 64 * h ≤ x.1.2.2.2.locals ∧ x.1.2.2.2.cells = mc ∧ x.1.2.2.2.slots = ms := C.2.2.2.2.2.2.2.2.1
theorem ax_C.kx (C : ax_C x Y i h mc ms) : ax_Kx Y x.2.1.1 := C.2.2.2.2.2.2.2.2.2.1
theorem ax_C.F (C : ax_C x Y i h mc ms) : ax_F Y := C.2.2.2.2.2.2.2.2.2.2.1
theorem ax_lift {pc' : Nat} {st' : List Value} (hW : ∀ (H : Heap) (ls : Array Slot) (locs : List Loc), ax_W x H locs kc ks Q (F0 x.2.1.2.1 pc' ls st') → ax_W x H locs kc ks Q (F0 x.2.1.2.1 pc ls st)) (kk : ax_V x Y ad kc ks Q N g pc' L st') : ax_V x Y ad kc ks Q N g pc L st :=
  fun H ls locs hP hD hS hL => hW H ls locs (kk H ls locs hP hD hS hL)
theorem ax_lift2 {pc1 pc2 : Nat} {st1 st2 : List Value} {P1 P2 : Prop} (hW : ∀ (H : Heap) (ls : Array Slot) (locs : List Loc), (P1 → ax_W x H locs kc ks Q (F0 x.2.1.2.1 pc1 ls st1)) → (P2 → ax_W x H locs kc ks Q (F0 x.2.1.2.1 pc2 ls st2)) → ax_W x H locs kc ks Q (F0 x.2.1.2.1 pc ls st)) (k1 : P1 → ax_V x Y ad kc ks Q N g pc1 L st1) (k2 : P2 → ax_V x Y ad kc ks Q N g pc2 L st2) : ax_V x Y ad kc ks Q N g pc L st :=
  fun H ls locs hP hD hS hL => hW H ls locs (fun q => k1 q H ls locs hP hD hS hL) (fun q => k2 q H ls locs hP hD hS hL)
theorem ax_iconst (C : ax_C x Y i h mc ms) {n : Int} {v : Int32} (hd : decode i.2.1 pc = .ok (.iconst n, 1)) (hv : Int32.ofInt n = v) (kk : ax_V x Y ad kc ks Q N g (pc + 1) L (.int v :: st)) : ax_V x Y ad kc ks Q N g pc L (st) := ax_lift (fun _ _ _ k => lv_iconst C.exec C.bytes hd hv k) kk
theorem ax_bipush (C : ax_C x Y i h mc ms) {n : Int} {v : Int32} (hd : decode i.2.1 pc = .ok (.bipush n, 2)) (hv : (Int8.ofInt n).toInt32 = v) (kk : ax_V x Y ad kc ks Q N g (pc + 2) L (.int v :: st)) : ax_V x Y ad kc ks Q N g pc L (st) := ax_lift (fun _ _ _ k => lv_bipush C.exec C.bytes hd hv k) kk
theorem ax_sipush (C : ax_C x Y i h mc ms) {n : Int} {v : Int32} (hd : decode i.2.1 pc = .ok (.sipush n, 3)) (hv : (Int16.ofInt n).toInt32 = v) (kk : ax_V x Y ad kc ks Q N g (pc + 3) L (.int v :: st)) : ax_V x Y ad kc ks Q N g pc L (st) := ax_lift (fun _ _ _ k => lv_sipush C.exec C.bytes hd hv k) kk
theorem ax_lconst (C : ax_C x Y i h mc ms) {n : Fin 2} {v : Int64} (hd : decode i.2.1 pc = .ok (.lconst n, 1)) (hv : Int64.ofNat (n : Nat) = v) (kk : ax_V x Y ad kc ks Q N g (pc + 1) L (.long v :: st)) : ax_V x Y ad kc ks Q N g pc L (st) := ax_lift (fun _ _ _ k => lv_lconst C.exec C.bytes hd hv k) kk
theorem ax_iadd (C : ax_C x Y i h mc ms) {a b : Int32} (hd : decode i.2.1 pc = .ok (.iadd, 1))  (kk : ax_V x Y ad kc ks Q N g (pc + 1) L (.int (a + b) :: st)) : ax_V x Y ad kc ks Q N g pc L (.int b :: .int a :: st) := ax_lift (fun _ _ _ k => lv_iadd C.exec C.bytes hd  k) kk
theorem ax_isub (C : ax_C x Y i h mc ms) {a b : Int32} (hd : decode i.2.1 pc = .ok (.isub, 1))  (kk : ax_V x Y ad kc ks Q N g (pc + 1) L (.int (a - b) :: st)) : ax_V x Y ad kc ks Q N g pc L (.int b :: .int a :: st) := ax_lift (fun _ _ _ k => lv_isub C.exec C.bytes hd  k) kk
theorem ax_imul (C : ax_C x Y i h mc ms) {a b : Int32} (hd : decode i.2.1 pc = .ok (.imul, 1))  (kk : ax_V x Y ad kc ks Q N g (pc + 1) L (.int (a * b) :: st)) : ax_V x Y ad kc ks Q N g pc L (.int b :: .int a :: st) := ax_lift (fun _ _ _ k => lv_imul C.exec C.bytes hd  k) kk
theorem ax_iand (C : ax_C x Y i h mc ms) {a b : Int32} (hd : decode i.2.1 pc = .ok (.iand, 1))  (kk : ax_V x Y ad kc ks Q N g (pc + 1) L (.int (a &&& b) :: st)) : ax_V x Y ad kc ks Q N g pc L (.int b :: .int a :: st) := ax_lift (fun _ _ _ k => lv_iand C.exec C.bytes hd  k) kk
theorem ax_ior (C : ax_C x Y i h mc ms) {a b : Int32} (hd : decode i.2.1 pc = .ok (.ior, 1))  (kk : ax_V x Y ad kc ks Q N g (pc + 1) L (.int (a ||| b) :: st)) : ax_V x Y ad kc ks Q N g pc L (.int b :: .int a :: st) := ax_lift (fun _ _ _ k => lv_ior C.exec C.bytes hd  k) kk
theorem ax_ixor (C : ax_C x Y i h mc ms) {a b : Int32} (hd : decode i.2.1 pc = .ok (.ixor, 1))  (kk : ax_V x Y ad kc ks Q N g (pc + 1) L (.int (a ^^^ b) :: st)) : ax_V x Y ad kc ks Q N g pc L (.int b :: .int a :: st) := ax_lift (fun _ _ _ k => lv_ixor C.exec C.bytes hd  k) kk
theorem ax_ishl (C : ax_C x Y i h mc ms) {a b : Int32} (hd : decode i.2.1 pc = .ok (.ishl, 1))  (kk : ax_V x Y ad kc ks Q N g (pc + 1) L (.int (a <<< (b &&& 31)) :: st)) : ax_V x Y ad kc ks Q N g pc L (.int b :: .int a :: st) := ax_lift (fun _ _ _ k => lv_ishl C.exec C.bytes hd  k) kk
theorem ax_ishr (C : ax_C x Y i h mc ms) {a b : Int32} (hd : decode i.2.1 pc = .ok (.ishr, 1))  (kk : ax_V x Y ad kc ks Q N g (pc + 1) L (.int (a >>> (b &&& 31)) :: st)) : ax_V x Y ad kc ks Q N g pc L (.int b :: .int a :: st) := ax_lift (fun _ _ _ k => lv_ishr C.exec C.bytes hd  k) kk
theorem ax_idiv (C : ax_C x Y i h mc ms) {a b : Int32} (hd : decode i.2.1 pc = .ok (.idiv, 1)) (hne : ¬ b = 0) (kk : ax_V x Y ad kc ks Q N g (pc + 1) L (.int (a / b) :: st)) : ax_V x Y ad kc ks Q N g pc L (.int b :: .int a :: st) := ax_lift (fun _ _ _ k => lv_idiv C.exec C.bytes hd hne k) kk
theorem ax_irem (C : ax_C x Y i h mc ms) {a b : Int32} (hd : decode i.2.1 pc = .ok (.irem, 1)) (hne : ¬ b = 0) (kk : ax_V x Y ad kc ks Q N g (pc + 1) L (.int (a - a / b * b) :: st)) : ax_V x Y ad kc ks Q N g pc L (.int b :: .int a :: st) := ax_lift (fun _ _ _ k => lv_irem C.exec C.bytes hd hne k) kk
theorem ax_ineg (C : ax_C x Y i h mc ms) {a : Int32} (hd : decode i.2.1 pc = .ok (.ineg, 1))  (kk : ax_V x Y ad kc ks Q N g (pc + 1) L (.int (-a) :: st)) : ax_V x Y ad kc ks Q N g pc L (.int a :: st) := ax_lift (fun _ _ _ k => lv_ineg C.exec C.bytes hd  k) kk
theorem ax_iushr (C : ax_C x Y i h mc ms) {a b : Int32} (hd : decode i.2.1 pc = .ok (.iushr, 1))  (kk : ax_V x Y ad kc ks Q N g (pc + 1) L (.int (a.toUInt32 >>> (b.toUInt32 &&& Int32.toUInt32 31)).toInt32 :: st)) : ax_V x Y ad kc ks Q N g pc L (.int b :: .int a :: st) := ax_lift (fun _ _ _ k => lv_iushr C.exec C.bytes hd rfl k) kk
theorem ax_ladd (C : ax_C x Y i h mc ms) {a b : Int64} (hd : decode i.2.1 pc = .ok (.ladd, 1))  (kk : ax_V x Y ad kc ks Q N g (pc + 1) L (.long (a + b) :: st)) : ax_V x Y ad kc ks Q N g pc L (.long b :: .long a :: st) := ax_lift (fun _ _ _ k => lv_ladd C.exec C.bytes hd  k) kk
theorem ax_lor (C : ax_C x Y i h mc ms) {a b : Int64} (hd : decode i.2.1 pc = .ok (.lor, 1))  (kk : ax_V x Y ad kc ks Q N g (pc + 1) L (.long (a ||| b) :: st)) : ax_V x Y ad kc ks Q N g pc L (.long b :: .long a :: st) := ax_lift (fun _ _ _ k => lv_lor C.exec C.bytes hd  k) kk
theorem ax_land (C : ax_C x Y i h mc ms) {a b : Int64} (hd : decode i.2.1 pc = .ok (.land, 1))  (kk : ax_V x Y ad kc ks Q N g (pc + 1) L (.long (a &&& b) :: st)) : ax_V x Y ad kc ks Q N g pc L (.long b :: .long a :: st) := ax_lift (fun _ _ _ k => lv_land C.exec C.bytes hd  k) kk
theorem ax_lshl (C : ax_C x Y i h mc ms) {a : Int64} {b : Int32} (hd : decode i.2.1 pc = .ok (.lshl, 1))  (kk : ax_V x Y ad kc ks Q N g (pc + 1) L (.long (a <<< (b.toInt64 &&& 63)) :: st)) : ax_V x Y ad kc ks Q N g pc L (.int b :: .long a :: st) := ax_lift (fun _ _ _ k => lv_lshl C.exec C.bytes hd rfl k) kk
theorem ax_lshr (C : ax_C x Y i h mc ms) {a : Int64} {b : Int32} (hd : decode i.2.1 pc = .ok (.lshr, 1))  (kk : ax_V x Y ad kc ks Q N g (pc + 1) L (.long (a >>> (b.toInt64 &&& 63)) :: st)) : ax_V x Y ad kc ks Q N g pc L (.int b :: .long a :: st) := ax_lift (fun _ _ _ k => lv_lshr C.exec C.bytes hd rfl k) kk
theorem ax_lcmp (C : ax_C x Y i h mc ms) {a b : Int64} (hd : decode i.2.1 pc = .ok (.lcmp, 1))  (kk : ax_V x Y ad kc ks Q N g (pc + 1) L (.int (lg_cmp a b) :: st)) : ax_V x Y ad kc ks Q N g pc L (.long b :: .long a :: st) := ax_lift (fun _ _ _ k => W.lcmp C.exec C.bytes hd  k) kk
theorem ax_i2l (C : ax_C x Y i h mc ms) {a : Int32} (hd : decode i.2.1 pc = .ok (.i2l, 1))  (kk : ax_V x Y ad kc ks Q N g (pc + 1) L (.long a.toInt64 :: st)) : ax_V x Y ad kc ks Q N g pc L (.int a :: st) := ax_lift (fun _ _ _ k => lv_i2l C.exec C.bytes hd rfl k) kk
theorem ax_l2i (C : ax_C x Y i h mc ms) {a : Int64} (hd : decode i.2.1 pc = .ok (.l2i, 1))  (kk : ax_V x Y ad kc ks Q N g (pc + 1) L (.int a.toInt32 :: st)) : ax_V x Y ad kc ks Q N g pc L (.long a :: st) := ax_lift (fun _ _ _ k => lv_l2i C.exec C.bytes hd rfl k) kk
theorem ax_i2b (C : ax_C x Y i h mc ms) {a : Int32} (hd : decode i.2.1 pc = .ok (.i2b, 1))  (kk : ax_V x Y ad kc ks Q N g (pc + 1) L (.int a.toInt8.toInt32 :: st)) : ax_V x Y ad kc ks Q N g pc L (.int a :: st) := ax_lift (fun _ _ _ k => lv_i2b C.exec C.bytes hd rfl k) kk
theorem ax_i2s (C : ax_C x Y i h mc ms) {a : Int32} (hd : decode i.2.1 pc = .ok (.i2s, 1))  (kk : ax_V x Y ad kc ks Q N g (pc + 1) L (.int a.toInt16.toInt32 :: st)) : ax_V x Y ad kc ks Q N g pc L (.int a :: st) := ax_lift (fun _ _ _ k => lv_i2s C.exec C.bytes hd rfl k) kk
theorem ax_i2c (C : ax_C x Y i h mc ms) {a : Int32} (hd : decode i.2.1 pc = .ok (.i2c, 1))  (kk : ax_V x Y ad kc ks Q N g (pc + 1) L (.int (a.toUInt32 % 65536).toInt32 :: st)) : ax_V x Y ad kc ks Q N g pc L (.int a :: st) := ax_lift (fun _ _ _ k => lv_i2c C.exec C.bytes hd rfl k) kk
theorem ax_dup (C : ax_C x Y i h mc ms) {v : Value} (hd : decode i.2.1 pc = .ok (.dup, 1)) (hv : v.category = 1) (kk : ax_V x Y ad kc ks Q N g (pc + 1) L (v :: v :: st)) : ax_V x Y ad kc ks Q N g pc L (v :: st) := ax_lift (fun _ _ _ k => lv_dup C.exec C.bytes hd hv k) kk
theorem ax_pop (C : ax_C x Y i h mc ms) {v : Value} (hd : decode i.2.1 pc = .ok (.pop, 1)) (hv : v.category = 1) (kk : ax_V x Y ad kc ks Q N g (pc + 1) L (st)) : ax_V x Y ad kc ks Q N g pc L (v :: st) := ax_lift (fun _ _ _ k => lv_pop C.exec C.bytes hd hv k) kk
theorem ax_dup2 (C : ax_C x Y i h mc ms) {v w : Value} (hd : decode i.2.1 pc = .ok (.dup2, 1)) (hv : v.category = 1) (hw : w.category = 1) (kk : ax_V x Y ad kc ks Q N g (pc + 1) L (v :: w :: v :: w :: st)) : ax_V x Y ad kc ks Q N g pc L (v :: w :: st) := ax_lift (fun _ _ _ k => lv_dup2_11 C.exec C.bytes hd hv hw k) kk
theorem ax_ldc (C : ax_C x Y i h mc ms) {n : Nat} {v : Int32} (hd : decode i.2.1 pc = .ok (.ldc n, 2)) (hc : Cond.constant i.1.cls n v ∈ ax_tb) (kk : ax_V x Y ad kc ks Q N g (pc + 2) L (.int v :: st)) : ax_V x Y ad kc ks Q N g pc L (st) := ax_lift (fun _ _ _ k => lv_ldc C.exec C.bytes C.own (C.hts _ hc) hd k) kk
theorem ax_ldc2 (C : ax_C x Y i h mc ms) {n : Nat} {v : Int64} (hd : decode i.2.1 pc = .ok (.ldc2_w n, 3)) (hc : Cond.constantLong i.1.cls n v ∈ ax_tb) (kk : ax_V x Y ad kc ks Q N g (pc + 3) L (.long v :: st)) : ax_V x Y ad kc ks Q N g pc L (st) := ax_lift (fun _ _ _ k => lv_ldc2 C.exec C.bytes C.own (C.hts _ hc) hd k) kk
theorem ax_if_eq (C : ax_C x Y i h mc ms) {x0 : Int32} {off : Int} {tgt : Nat} (hd : decode i.2.1 pc = .ok (.ifCond .eq off, 3)) (ht : (pc : Int) + off = (tgt : Int)) (kt : x0 = 0 → ax_V x Y ad kc ks Q N g tgt L (st)) (kf : ¬ x0 = 0 → ax_V x Y ad kc ks Q N g (pc + 3) L (st)) : ax_V x Y ad kc ks Q N g pc L (.int x0 :: st) := ax_lift2 (fun _ _ _ k1 k2 => lv_if_eq C.exec C.bytes hd ht k1 k2) kt kf
theorem ax_icmp_eq (C : ax_C x Y i h mc ms) {x0 y0 : Int32} {off : Int} {tgt : Nat} (hd : decode i.2.1 pc = .ok (.if_icmp .eq off, 3)) (ht : (pc : Int) + off = (tgt : Int)) (kt : x0 = y0 → ax_V x Y ad kc ks Q N g tgt L (st)) (kf : ¬ x0 = y0 → ax_V x Y ad kc ks Q N g (pc + 3) L (st)) : ax_V x Y ad kc ks Q N g pc L (.int y0 :: .int x0 :: st) := ax_lift2 (fun _ _ _ k1 k2 => lv_icmp_eq C.exec C.bytes hd ht k1 k2) kt kf
theorem ax_if_ne (C : ax_C x Y i h mc ms) {x0 : Int32} {off : Int} {tgt : Nat} (hd : decode i.2.1 pc = .ok (.ifCond .ne off, 3)) (ht : (pc : Int) + off = (tgt : Int)) (kt : ¬ x0 = 0 → ax_V x Y ad kc ks Q N g tgt L (st)) (kf : x0 = 0 → ax_V x Y ad kc ks Q N g (pc + 3) L (st)) : ax_V x Y ad kc ks Q N g pc L (.int x0 :: st) := ax_lift2 (fun _ _ _ k1 k2 => lv_if_ne C.exec C.bytes hd ht k1 k2) kt kf
theorem ax_icmp_ne (C : ax_C x Y i h mc ms) {x0 y0 : Int32} {off : Int} {tgt : Nat} (hd : decode i.2.1 pc = .ok (.if_icmp .ne off, 3)) (ht : (pc : Int) + off = (tgt : Int)) (kt : ¬ x0 = y0 → ax_V x Y ad kc ks Q N g tgt L (st)) (kf : x0 = y0 → ax_V x Y ad kc ks Q N g (pc + 3) L (st)) : ax_V x Y ad kc ks Q N g pc L (.int y0 :: .int x0 :: st) := ax_lift2 (fun _ _ _ k1 k2 => lv_icmp_ne C.exec C.bytes hd ht k1 k2) kt kf
theorem ax_if_lt (C : ax_C x Y i h mc ms) {x0 : Int32} {off : Int} {tgt : Nat} (hd : decode i.2.1 pc = .ok (.ifCond .lt off, 3)) (ht : (pc : Int) + off = (tgt : Int)) (kt : x0 < 0 → ax_V x Y ad kc ks Q N g tgt L (st)) (kf : ¬ x0 < 0 → ax_V x Y ad kc ks Q N g (pc + 3) L (st)) : ax_V x Y ad kc ks Q N g pc L (.int x0 :: st) := ax_lift2 (fun _ _ _ k1 k2 => lv_if_lt C.exec C.bytes hd ht k1 k2) kt kf
theorem ax_icmp_lt (C : ax_C x Y i h mc ms) {x0 y0 : Int32} {off : Int} {tgt : Nat} (hd : decode i.2.1 pc = .ok (.if_icmp .lt off, 3)) (ht : (pc : Int) + off = (tgt : Int)) (kt : x0 < y0 → ax_V x Y ad kc ks Q N g tgt L (st)) (kf : ¬ x0 < y0 → ax_V x Y ad kc ks Q N g (pc + 3) L (st)) : ax_V x Y ad kc ks Q N g pc L (.int y0 :: .int x0 :: st) := ax_lift2 (fun _ _ _ k1 k2 => lv_icmp_lt C.exec C.bytes hd ht k1 k2) kt kf
theorem ax_if_ge (C : ax_C x Y i h mc ms) {x0 : Int32} {off : Int} {tgt : Nat} (hd : decode i.2.1 pc = .ok (.ifCond .ge off, 3)) (ht : (pc : Int) + off = (tgt : Int)) (kt : 0 ≤ x0 → ax_V x Y ad kc ks Q N g tgt L (st)) (kf : ¬ 0 ≤ x0 → ax_V x Y ad kc ks Q N g (pc + 3) L (st)) : ax_V x Y ad kc ks Q N g pc L (.int x0 :: st) := ax_lift2 (fun _ _ _ k1 k2 => lv_if_ge C.exec C.bytes hd ht k1 k2) kt kf
theorem ax_icmp_ge (C : ax_C x Y i h mc ms) {x0 y0 : Int32} {off : Int} {tgt : Nat} (hd : decode i.2.1 pc = .ok (.if_icmp .ge off, 3)) (ht : (pc : Int) + off = (tgt : Int)) (kt : y0 ≤ x0 → ax_V x Y ad kc ks Q N g tgt L (st)) (kf : ¬ y0 ≤ x0 → ax_V x Y ad kc ks Q N g (pc + 3) L (st)) : ax_V x Y ad kc ks Q N g pc L (.int y0 :: .int x0 :: st) := ax_lift2 (fun _ _ _ k1 k2 => lv_icmp_ge C.exec C.bytes hd ht k1 k2) kt kf
theorem ax_if_gt (C : ax_C x Y i h mc ms) {x0 : Int32} {off : Int} {tgt : Nat} (hd : decode i.2.1 pc = .ok (.ifCond .gt off, 3)) (ht : (pc : Int) + off = (tgt : Int)) (kt : 0 < x0 → ax_V x Y ad kc ks Q N g tgt L (st)) (kf : ¬ 0 < x0 → ax_V x Y ad kc ks Q N g (pc + 3) L (st)) : ax_V x Y ad kc ks Q N g pc L (.int x0 :: st) := ax_lift2 (fun _ _ _ k1 k2 => lv_if_gt C.exec C.bytes hd ht k1 k2) kt kf
theorem ax_icmp_gt (C : ax_C x Y i h mc ms) {x0 y0 : Int32} {off : Int} {tgt : Nat} (hd : decode i.2.1 pc = .ok (.if_icmp .gt off, 3)) (ht : (pc : Int) + off = (tgt : Int)) (kt : y0 < x0 → ax_V x Y ad kc ks Q N g tgt L (st)) (kf : ¬ y0 < x0 → ax_V x Y ad kc ks Q N g (pc + 3) L (st)) : ax_V x Y ad kc ks Q N g pc L (.int y0 :: .int x0 :: st) := ax_lift2 (fun _ _ _ k1 k2 => lv_icmp_gt C.exec C.bytes hd ht k1 k2) kt kf
theorem ax_if_le (C : ax_C x Y i h mc ms) {x0 : Int32} {off : Int} {tgt : Nat} (hd : decode i.2.1 pc = .ok (.ifCond .le off, 3)) (ht : (pc : Int) + off = (tgt : Int)) (kt : x0 ≤ 0 → ax_V x Y ad kc ks Q N g tgt L (st)) (kf : ¬ x0 ≤ 0 → ax_V x Y ad kc ks Q N g (pc + 3) L (st)) : ax_V x Y ad kc ks Q N g pc L (.int x0 :: st) := ax_lift2 (fun _ _ _ k1 k2 => lv_if_le C.exec C.bytes hd ht k1 k2) kt kf
theorem ax_icmp_le (C : ax_C x Y i h mc ms) {x0 y0 : Int32} {off : Int} {tgt : Nat} (hd : decode i.2.1 pc = .ok (.if_icmp .le off, 3)) (ht : (pc : Int) + off = (tgt : Int)) (kt : x0 ≤ y0 → ax_V x Y ad kc ks Q N g tgt L (st)) (kf : ¬ x0 ≤ y0 → ax_V x Y ad kc ks Q N g (pc + 3) L (st)) : ax_V x Y ad kc ks Q N g pc L (.int y0 :: .int x0 :: st) := ax_lift2 (fun _ _ _ k1 k2 => lv_icmp_le C.exec C.bytes hd ht k1 k2) kt kf
theorem ax_goto (C : ax_C x Y i h mc ms) {off : Int} {tgt : Nat} (hd : decode i.2.1 pc = .ok (.goto off, 3)) (ht : (pc : Int) + off = (tgt : Int)) (kk : ax_V x Y ad kc ks Q N g tgt L (st)) : ax_V x Y ad kc ks Q N g pc L (st) := ax_lift (fun _ _ _ k => lv_goto C.exec C.bytes hd ht k) kk
theorem ax_tabOut (C : ax_C x Y i h mc ms) {dflt lo hi : Int} {offs : Array Int} {len : Nat} {x0 : Int32} {tgt : Nat} (hd : decode i.2.1 pc = .ok (.tableswitch dflt lo hi offs, len)) (hh : x0.toInt < lo ∨ hi < x0.toInt) (ht : (pc : Int) + dflt = (tgt : Int)) (kk : ax_V x Y ad kc ks Q N g tgt L (st)) : ax_V x Y ad kc ks Q N g pc L (.int x0 :: st) := ax_lift (fun _ _ _ k => lv_tableOut C.exec C.bytes hd hh ht k) kk
theorem ax_tabIn (C : ax_C x Y i h mc ms) {dflt lo hi : Int} {offs : Array Int} {len : Nat} {x0 : Int32} {off : Int} {tgt : Nat} (hd : decode i.2.1 pc = .ok (.tableswitch dflt lo hi offs, len)) (h1 : ¬ x0.toInt < lo) (h2 : ¬ hi < x0.toInt) (ho : offs[(x0.toInt - lo).toNat]? = some off) (ht : (pc : Int) + off = (tgt : Int)) (kk : ax_V x Y ad kc ks Q N g tgt L (st)) : ax_V x Y ad kc ks Q N g pc L (.int x0 :: st) := ax_lift (fun _ _ _ k => lv_tableIn C.exec C.bytes hd h1 h2 ho ht k) kk
theorem ax_iload_0 (C : ax_C x Y i h mc ms) {v : Int32} {r : List (Option Value)} (hd : decode i.2.1 pc = .ok (.iload_n 0, 1)) (kk : ax_V x Y ad kc ks Q N g (pc + 1) (some (.int v) :: r) (.int v :: st)) : ax_V x Y ad kc ks Q N g pc (some (.int v) :: r) (st) := fun H ls locs hP hD hS hL => lv_iload_n C.exec C.bytes hd rfl (hL.2.2 0 (.int v) rfl) (kk H ls locs hP hD hS hL)
theorem ax_istore_0 (C : ax_C x Y i h mc ms) {z : Option Value} {v : Int32} {r : List (Option Value)} (hd : decode i.2.1 pc = .ok (.istore_n 0, 1)) (kk : ax_V x Y ad kc ks Q N g (pc + 1) (some (.int v) :: r) (st)) : ax_V x Y ad kc ks Q N g pc (z :: r) (.int v :: st) := fun H ls locs hP hD hS hL => lv_istore_n C.exec C.bytes hd rfl (ax_has hL) (by simp only [List.length_cons]; omega) rfl (fun ls1 h1 => kk H ls1 locs hP hD hS (ax_Lset (by simp only [List.length_cons]; omega) (fun _ _ h0 => absurd h0 (Nat.lt_irrefl 0)) h1))
theorem ax_lload_0 (C : ax_C x Y i h mc ms) {v : Int64} {r : List (Option Value)} (hd : decode i.2.1 pc = .ok (.lload_n 0, 1)) (kk : ax_V x Y ad kc ks Q N g (pc + 1) (some (.long v) :: r) (.long v :: st)) : ax_V x Y ad kc ks Q N g pc (some (.long v) :: r) (st) := fun H ls locs hP hD hS hL => lv_lload_n C.exec C.bytes hd rfl (hL.2.2 0 (.long v) rfl) (kk H ls locs hP hD hS hL)
theorem ax_lstore_0 (C : ax_C x Y i h mc ms) {z z2 : Option Value} {v : Int64} {r : List (Option Value)} (hd : decode i.2.1 pc = .ok (.lstore_n 0, 1)) (kk : ax_V x Y ad kc ks Q N g (pc + 1) (some (.long v) :: none :: r) (st)) : ax_V x Y ad kc ks Q N g pc (z :: z2 :: r) (.long v :: st) := fun H ls locs hP hD hS hL => lv_lstore_n C.exec C.bytes hd rfl (ax_has hL) (by simp only [List.length_cons]; omega) rfl (fun ls1 h1 => kk H ls1 locs hP hD hS (ax_Lset2 (by simp only [List.length_cons]; omega) (fun _ _ h0 => absurd h0 (Nat.lt_irrefl 0)) h1))
theorem ax_aload_0 (C : ax_C x Y i h mc ms) {v : Nat} {r : List (Option Value)} (hd : decode i.2.1 pc = .ok (.aload_n 0, 1)) (kk : ax_V x Y ad kc ks Q N g (pc + 1) (some (.ref v) :: r) (.ref v :: st)) : ax_V x Y ad kc ks Q N g pc (some (.ref v) :: r) (st) := fun H ls locs hP hD hS hL => lv_aload_n C.exec C.bytes hd rfl (hL.2.2 0 (.ref v) rfl) (kk H ls locs hP hD hS hL)
theorem ax_astore_0 (C : ax_C x Y i h mc ms) {z : Option Value} {v : Nat} {r : List (Option Value)} (hd : decode i.2.1 pc = .ok (.astore_n 0, 1)) (kk : ax_V x Y ad kc ks Q N g (pc + 1) (some (.ref v) :: r) (st)) : ax_V x Y ad kc ks Q N g pc (z :: r) (.ref v :: st) := fun H ls locs hP hD hS hL => lv_astore_n C.exec C.bytes hd rfl (ax_has hL) (by simp only [List.length_cons]; omega) rfl (fun ls1 h1 => kk H ls1 locs hP hD hS (ax_Lset (by simp only [List.length_cons]; omega) (fun _ _ h0 => absurd h0 (Nat.lt_irrefl 0)) h1))
theorem ax_iinc_0 (C : ax_C x Y i h mc ms) {v : Int32} {r : List (Option Value)} {d : Int} (hd : decode i.2.1 pc = .ok (.iinc 0 d, 3)) (w : Int32) (hw : Int32.ofInt d = w) (kk : ax_V x Y ad kc ks Q N g (pc + 3) (some (.int (v + w)) :: r) (st)) : ax_V x Y ad kc ks Q N g pc (some (.int v) :: r) (st) := fun H ls locs hP hD hS hL => lv_iinc (lv := (0, .int v) :: ax_as (some (.int v) :: r)) (k := 0) C.exec C.bytes hd ⟨hL.1, hL.2.1, fun q hq => by rcases List.mem_cons.mp hq with e | e; exact (by rw [e]; exact hL.2.2 0 (.int v) rfl); exact (ax_has hL).2.2 q e⟩ rfl (by rw [hw]) (by simp only [List.length_cons]; omega) rfl (fun ls1 h1 => kk H ls1 locs hP hD hS (ax_Lset (i := 0) (v := .int (v + w)) (by simp only [List.length_cons]; omega) (fun _ _ h0 => absurd h0 (Nat.lt_irrefl 0)) (ax_hsub h1 (fun q hq => by rcases List.mem_cons.mp hq with e | e; exact (by rw [e]; exact List.mem_cons_self); exact List.mem_cons_of_mem _ (List.mem_filter.mpr ⟨List.mem_cons_of_mem _ (List.mem_filter.mp e).1, (List.mem_filter.mp e).2⟩)))))
theorem ax_iload_1 (C : ax_C x Y i h mc ms) {a0 : Option Value} {v : Int32} {r : List (Option Value)} (hd : decode i.2.1 pc = .ok (.iload_n 1, 1)) (kk : ax_V x Y ad kc ks Q N g (pc + 1) (a0 :: some (.int v) :: r) (.int v :: st)) : ax_V x Y ad kc ks Q N g pc (a0 :: some (.int v) :: r) (st) := fun H ls locs hP hD hS hL => lv_iload_n C.exec C.bytes hd rfl (hL.2.2 1 (.int v) rfl) (kk H ls locs hP hD hS hL)
theorem ax_istore_1 (C : ax_C x Y i h mc ms) {a0 : Option Value} {z : Option Value} {v : Int32} {r : List (Option Value)} (hd : decode i.2.1 pc = .ok (.istore_n 1, 1)) (hp : ax_ok a0 = true) (kk : ax_V x Y ad kc ks Q N g (pc + 1) (a0 :: some (.int v) :: r) (st)) : ax_V x Y ad kc ks Q N g pc (a0 :: z :: r) (.int v :: st) := fun H ls locs hP hD hS hL => lv_istore_n C.exec C.bytes hd rfl (ax_has hL) (by simp only [List.length_cons]; omega) rfl (fun ls1 h1 => kk H ls1 locs hP hD hS (ax_Lset (by simp only [List.length_cons]; omega) (fun w hw _ => ax_okw hp (Option.some.inj hw)) h1))
theorem ax_lload_1 (C : ax_C x Y i h mc ms) {a0 : Option Value} {v : Int64} {r : List (Option Value)} (hd : decode i.2.1 pc = .ok (.lload_n 1, 1)) (kk : ax_V x Y ad kc ks Q N g (pc + 1) (a0 :: some (.long v) :: r) (.long v :: st)) : ax_V x Y ad kc ks Q N g pc (a0 :: some (.long v) :: r) (st) := fun H ls locs hP hD hS hL => lv_lload_n C.exec C.bytes hd rfl (hL.2.2 1 (.long v) rfl) (kk H ls locs hP hD hS hL)
theorem ax_lstore_1 (C : ax_C x Y i h mc ms) {a0 : Option Value} {z z2 : Option Value} {v : Int64} {r : List (Option Value)} (hd : decode i.2.1 pc = .ok (.lstore_n 1, 1)) (hp : ax_ok a0 = true) (kk : ax_V x Y ad kc ks Q N g (pc + 1) (a0 :: some (.long v) :: none :: r) (st)) : ax_V x Y ad kc ks Q N g pc (a0 :: z :: z2 :: r) (.long v :: st) := fun H ls locs hP hD hS hL => lv_lstore_n C.exec C.bytes hd rfl (ax_has hL) (by simp only [List.length_cons]; omega) rfl (fun ls1 h1 => kk H ls1 locs hP hD hS (ax_Lset2 (by simp only [List.length_cons]; omega) (fun w hw _ => ax_okw hp (Option.some.inj hw)) h1))
theorem ax_aload_1 (C : ax_C x Y i h mc ms) {a0 : Option Value} {v : Nat} {r : List (Option Value)} (hd : decode i.2.1 pc = .ok (.aload_n 1, 1)) (kk : ax_V x Y ad kc ks Q N g (pc + 1) (a0 :: some (.ref v) :: r) (.ref v :: st)) : ax_V x Y ad kc ks Q N g pc (a0 :: some (.ref v) :: r) (st) := fun H ls locs hP hD hS hL => lv_aload_n C.exec C.bytes hd rfl (hL.2.2 1 (.ref v) rfl) (kk H ls locs hP hD hS hL)
theorem ax_astore_1 (C : ax_C x Y i h mc ms) {a0 : Option Value} {z : Option Value} {v : Nat} {r : List (Option Value)} (hd : decode i.2.1 pc = .ok (.astore_n 1, 1)) (hp : ax_ok a0 = true) (kk : ax_V x Y ad kc ks Q N g (pc + 1) (a0 :: some (.ref v) :: r) (st)) : ax_V x Y ad kc ks Q N g pc (a0 :: z :: r) (.ref v :: st) := fun H ls locs hP hD hS hL => lv_astore_n C.exec C.bytes hd rfl (ax_has hL) (by simp only [List.length_cons]; omega) rfl (fun ls1 h1 => kk H ls1 locs hP hD hS (ax_Lset (by simp only [List.length_cons]; omega) (fun w hw _ => ax_okw hp (Option.some.inj hw)) h1))
theorem ax_iinc_1 (C : ax_C x Y i h mc ms) {a0 : Option Value} {v : Int32} {r : List (Option Value)} {d : Int} (hd : decode i.2.1 pc = .ok (.iinc 1 d, 3)) (w : Int32) (hw : Int32.ofInt d = w) (hp : ax_ok a0 = true) (kk : ax_V x Y ad kc ks Q N g (pc + 3) (a0 :: some (.int (v + w)) :: r) (st)) : ax_V x Y ad kc ks Q N g pc (a0 :: some (.int v) :: r) (st) := fun H ls locs hP hD hS hL => lv_iinc (lv := (1, .int v) :: ax_as (a0 :: some (.int v) :: r)) (k := 0) C.exec C.bytes hd ⟨hL.1, hL.2.1, fun q hq => by rcases List.mem_cons.mp hq with e | e; exact (by rw [e]; exact hL.2.2 1 (.int v) rfl); exact (ax_has hL).2.2 q e⟩ rfl (by rw [hw]) (by simp only [List.length_cons]; omega) rfl (fun ls1 h1 => kk H ls1 locs hP hD hS (ax_Lset (i := 1) (v := .int (v + w)) (by simp only [List.length_cons]; omega) (fun w hw _ => ax_okw hp (Option.some.inj hw)) (ax_hsub h1 (fun q hq => by rcases List.mem_cons.mp hq with e | e; exact (by rw [e]; exact List.mem_cons_self); exact List.mem_cons_of_mem _ (List.mem_filter.mpr ⟨List.mem_cons_of_mem _ (List.mem_filter.mp e).1, (List.mem_filter.mp e).2⟩)))))
theorem ax_iload_2 (C : ax_C x Y i h mc ms) {a0 a1 : Option Value} {v : Int32} {r : List (Option Value)} (hd : decode i.2.1 pc = .ok (.iload_n 2, 1)) (kk : ax_V x Y ad kc ks Q N g (pc + 1) (a0 :: a1 :: some (.int v) :: r) (.int v :: st)) : ax_V x Y ad kc ks Q N g pc (a0 :: a1 :: some (.int v) :: r) (st) := fun H ls locs hP hD hS hL => lv_iload_n C.exec C.bytes hd rfl (hL.2.2 2 (.int v) rfl) (kk H ls locs hP hD hS hL)
theorem ax_istore_2 (C : ax_C x Y i h mc ms) {a0 a1 : Option Value} {z : Option Value} {v : Int32} {r : List (Option Value)} (hd : decode i.2.1 pc = .ok (.istore_n 2, 1)) (hp : ax_ok a1 = true) (kk : ax_V x Y ad kc ks Q N g (pc + 1) (a0 :: a1 :: some (.int v) :: r) (st)) : ax_V x Y ad kc ks Q N g pc (a0 :: a1 :: z :: r) (.int v :: st) := fun H ls locs hP hD hS hL => lv_istore_n C.exec C.bytes hd rfl (ax_has hL) (by simp only [List.length_cons]; omega) rfl (fun ls1 h1 => kk H ls1 locs hP hD hS (ax_Lset (by simp only [List.length_cons]; omega) (fun w hw _ => ax_okw hp (Option.some.inj hw)) h1))
theorem ax_lload_2 (C : ax_C x Y i h mc ms) {a0 a1 : Option Value} {v : Int64} {r : List (Option Value)} (hd : decode i.2.1 pc = .ok (.lload_n 2, 1)) (kk : ax_V x Y ad kc ks Q N g (pc + 1) (a0 :: a1 :: some (.long v) :: r) (.long v :: st)) : ax_V x Y ad kc ks Q N g pc (a0 :: a1 :: some (.long v) :: r) (st) := fun H ls locs hP hD hS hL => lv_lload_n C.exec C.bytes hd rfl (hL.2.2 2 (.long v) rfl) (kk H ls locs hP hD hS hL)
theorem ax_lstore_2 (C : ax_C x Y i h mc ms) {a0 a1 : Option Value} {z z2 : Option Value} {v : Int64} {r : List (Option Value)} (hd : decode i.2.1 pc = .ok (.lstore_n 2, 1)) (hp : ax_ok a1 = true) (kk : ax_V x Y ad kc ks Q N g (pc + 1) (a0 :: a1 :: some (.long v) :: none :: r) (st)) : ax_V x Y ad kc ks Q N g pc (a0 :: a1 :: z :: z2 :: r) (.long v :: st) := fun H ls locs hP hD hS hL => lv_lstore_n C.exec C.bytes hd rfl (ax_has hL) (by simp only [List.length_cons]; omega) rfl (fun ls1 h1 => kk H ls1 locs hP hD hS (ax_Lset2 (by simp only [List.length_cons]; omega) (fun w hw _ => ax_okw hp (Option.some.inj hw)) h1))
theorem ax_aload_2 (C : ax_C x Y i h mc ms) {a0 a1 : Option Value} {v : Nat} {r : List (Option Value)} (hd : decode i.2.1 pc = .ok (.aload_n 2, 1)) (kk : ax_V x Y ad kc ks Q N g (pc + 1) (a0 :: a1 :: some (.ref v) :: r) (.ref v :: st)) : ax_V x Y ad kc ks Q N g pc (a0 :: a1 :: some (.ref v) :: r) (st) := fun H ls locs hP hD hS hL => lv_aload_n C.exec C.bytes hd rfl (hL.2.2 2 (.ref v) rfl) (kk H ls locs hP hD hS hL)
theorem ax_astore_2 (C : ax_C x Y i h mc ms) {a0 a1 : Option Value} {z : Option Value} {v : Nat} {r : List (Option Value)} (hd : decode i.2.1 pc = .ok (.astore_n 2, 1)) (hp : ax_ok a1 = true) (kk : ax_V x Y ad kc ks Q N g (pc + 1) (a0 :: a1 :: some (.ref v) :: r) (st)) : ax_V x Y ad kc ks Q N g pc (a0 :: a1 :: z :: r) (.ref v :: st) := fun H ls locs hP hD hS hL => lv_astore_n C.exec C.bytes hd rfl (ax_has hL) (by simp only [List.length_cons]; omega) rfl (fun ls1 h1 => kk H ls1 locs hP hD hS (ax_Lset (by simp only [List.length_cons]; omega) (fun w hw _ => ax_okw hp (Option.some.inj hw)) h1))
theorem ax_iinc_2 (C : ax_C x Y i h mc ms) {a0 a1 : Option Value} {v : Int32} {r : List (Option Value)} {d : Int} (hd : decode i.2.1 pc = .ok (.iinc 2 d, 3)) (w : Int32) (hw : Int32.ofInt d = w) (hp : ax_ok a1 = true) (kk : ax_V x Y ad kc ks Q N g (pc + 3) (a0 :: a1 :: some (.int (v + w)) :: r) (st)) : ax_V x Y ad kc ks Q N g pc (a0 :: a1 :: some (.int v) :: r) (st) := fun H ls locs hP hD hS hL => lv_iinc (lv := (2, .int v) :: ax_as (a0 :: a1 :: some (.int v) :: r)) (k := 0) C.exec C.bytes hd ⟨hL.1, hL.2.1, fun q hq => by rcases List.mem_cons.mp hq with e | e; exact (by rw [e]; exact hL.2.2 2 (.int v) rfl); exact (ax_has hL).2.2 q e⟩ rfl (by rw [hw]) (by simp only [List.length_cons]; omega) rfl (fun ls1 h1 => kk H ls1 locs hP hD hS (ax_Lset (i := 2) (v := .int (v + w)) (by simp only [List.length_cons]; omega) (fun w hw _ => ax_okw hp (Option.some.inj hw)) (ax_hsub h1 (fun q hq => by rcases List.mem_cons.mp hq with e | e; exact (by rw [e]; exact List.mem_cons_self); exact List.mem_cons_of_mem _ (List.mem_filter.mpr ⟨List.mem_cons_of_mem _ (List.mem_filter.mp e).1, (List.mem_filter.mp e).2⟩)))))
theorem ax_iload_3 (C : ax_C x Y i h mc ms) {a0 a1 a2 : Option Value} {v : Int32} {r : List (Option Value)} (hd : decode i.2.1 pc = .ok (.iload_n 3, 1)) (kk : ax_V x Y ad kc ks Q N g (pc + 1) (a0 :: a1 :: a2 :: some (.int v) :: r) (.int v :: st)) : ax_V x Y ad kc ks Q N g pc (a0 :: a1 :: a2 :: some (.int v) :: r) (st) := fun H ls locs hP hD hS hL => lv_iload_n C.exec C.bytes hd rfl (hL.2.2 3 (.int v) rfl) (kk H ls locs hP hD hS hL)
theorem ax_istore_3 (C : ax_C x Y i h mc ms) {a0 a1 a2 : Option Value} {z : Option Value} {v : Int32} {r : List (Option Value)} (hd : decode i.2.1 pc = .ok (.istore_n 3, 1)) (hp : ax_ok a2 = true) (kk : ax_V x Y ad kc ks Q N g (pc + 1) (a0 :: a1 :: a2 :: some (.int v) :: r) (st)) : ax_V x Y ad kc ks Q N g pc (a0 :: a1 :: a2 :: z :: r) (.int v :: st) := fun H ls locs hP hD hS hL => lv_istore_n C.exec C.bytes hd rfl (ax_has hL) (by simp only [List.length_cons]; omega) rfl (fun ls1 h1 => kk H ls1 locs hP hD hS (ax_Lset (by simp only [List.length_cons]; omega) (fun w hw _ => ax_okw hp (Option.some.inj hw)) h1))
theorem ax_lload_3 (C : ax_C x Y i h mc ms) {a0 a1 a2 : Option Value} {v : Int64} {r : List (Option Value)} (hd : decode i.2.1 pc = .ok (.lload_n 3, 1)) (kk : ax_V x Y ad kc ks Q N g (pc + 1) (a0 :: a1 :: a2 :: some (.long v) :: r) (.long v :: st)) : ax_V x Y ad kc ks Q N g pc (a0 :: a1 :: a2 :: some (.long v) :: r) (st) := fun H ls locs hP hD hS hL => lv_lload_n C.exec C.bytes hd rfl (hL.2.2 3 (.long v) rfl) (kk H ls locs hP hD hS hL)
theorem ax_lstore_3 (C : ax_C x Y i h mc ms) {a0 a1 a2 : Option Value} {z z2 : Option Value} {v : Int64} {r : List (Option Value)} (hd : decode i.2.1 pc = .ok (.lstore_n 3, 1)) (hp : ax_ok a2 = true) (kk : ax_V x Y ad kc ks Q N g (pc + 1) (a0 :: a1 :: a2 :: some (.long v) :: none :: r) (st)) : ax_V x Y ad kc ks Q N g pc (a0 :: a1 :: a2 :: z :: z2 :: r) (.long v :: st) := fun H ls locs hP hD hS hL => lv_lstore_n C.exec C.bytes hd rfl (ax_has hL) (by simp only [List.length_cons]; omega) rfl (fun ls1 h1 => kk H ls1 locs hP hD hS (ax_Lset2 (by simp only [List.length_cons]; omega) (fun w hw _ => ax_okw hp (Option.some.inj hw)) h1))
theorem ax_aload_3 (C : ax_C x Y i h mc ms) {a0 a1 a2 : Option Value} {v : Nat} {r : List (Option Value)} (hd : decode i.2.1 pc = .ok (.aload_n 3, 1)) (kk : ax_V x Y ad kc ks Q N g (pc + 1) (a0 :: a1 :: a2 :: some (.ref v) :: r) (.ref v :: st)) : ax_V x Y ad kc ks Q N g pc (a0 :: a1 :: a2 :: some (.ref v) :: r) (st) := fun H ls locs hP hD hS hL => lv_aload_n C.exec C.bytes hd rfl (hL.2.2 3 (.ref v) rfl) (kk H ls locs hP hD hS hL)
theorem ax_astore_3 (C : ax_C x Y i h mc ms) {a0 a1 a2 : Option Value} {z : Option Value} {v : Nat} {r : List (Option Value)} (hd : decode i.2.1 pc = .ok (.astore_n 3, 1)) (hp : ax_ok a2 = true) (kk : ax_V x Y ad kc ks Q N g (pc + 1) (a0 :: a1 :: a2 :: some (.ref v) :: r) (st)) : ax_V x Y ad kc ks Q N g pc (a0 :: a1 :: a2 :: z :: r) (.ref v :: st) := fun H ls locs hP hD hS hL => lv_astore_n C.exec C.bytes hd rfl (ax_has hL) (by simp only [List.length_cons]; omega) rfl (fun ls1 h1 => kk H ls1 locs hP hD hS (ax_Lset (by simp only [List.length_cons]; omega) (fun w hw _ => ax_okw hp (Option.some.inj hw)) h1))
theorem ax_iinc_3 (C : ax_C x Y i h mc ms) {a0 a1 a2 : Option Value} {v : Int32} {r : List (Option Value)} {d : Int} (hd : decode i.2.1 pc = .ok (.iinc 3 d, 3)) (w : Int32) (hw : Int32.ofInt d = w) (hp : ax_ok a2 = true) (kk : ax_V x Y ad kc ks Q N g (pc + 3) (a0 :: a1 :: a2 :: some (.int (v + w)) :: r) (st)) : ax_V x Y ad kc ks Q N g pc (a0 :: a1 :: a2 :: some (.int v) :: r) (st) := fun H ls locs hP hD hS hL => lv_iinc (lv := (3, .int v) :: ax_as (a0 :: a1 :: a2 :: some (.int v) :: r)) (k := 0) C.exec C.bytes hd ⟨hL.1, hL.2.1, fun q hq => by rcases List.mem_cons.mp hq with e | e; exact (by rw [e]; exact hL.2.2 3 (.int v) rfl); exact (ax_has hL).2.2 q e⟩ rfl (by rw [hw]) (by simp only [List.length_cons]; omega) rfl (fun ls1 h1 => kk H ls1 locs hP hD hS (ax_Lset (i := 3) (v := .int (v + w)) (by simp only [List.length_cons]; omega) (fun w hw _ => ax_okw hp (Option.some.inj hw)) (ax_hsub h1 (fun q hq => by rcases List.mem_cons.mp hq with e | e; exact (by rw [e]; exact List.mem_cons_self); exact List.mem_cons_of_mem _ (List.mem_filter.mpr ⟨List.mem_cons_of_mem _ (List.mem_filter.mp e).1, (List.mem_filter.mp e).2⟩)))))
theorem ax_iload_4 (C : ax_C x Y i h mc ms) {a0 a1 a2 a3 : Option Value} {v : Int32} {r : List (Option Value)} (hd : decode i.2.1 pc = .ok (.iload 4, 2)) (kk : ax_V x Y ad kc ks Q N g (pc + 2) (a0 :: a1 :: a2 :: a3 :: some (.int v) :: r) (.int v :: st)) : ax_V x Y ad kc ks Q N g pc (a0 :: a1 :: a2 :: a3 :: some (.int v) :: r) (st) := fun H ls locs hP hD hS hL => lv_iload C.exec C.bytes hd (hL.2.2 4 (.int v) rfl) (kk H ls locs hP hD hS hL)
theorem ax_istore_4 (C : ax_C x Y i h mc ms) {a0 a1 a2 a3 : Option Value} {z : Option Value} {v : Int32} {r : List (Option Value)} (hd : decode i.2.1 pc = .ok (.istore 4, 2)) (hp : ax_ok a3 = true) (kk : ax_V x Y ad kc ks Q N g (pc + 2) (a0 :: a1 :: a2 :: a3 :: some (.int v) :: r) (st)) : ax_V x Y ad kc ks Q N g pc (a0 :: a1 :: a2 :: a3 :: z :: r) (.int v :: st) := fun H ls locs hP hD hS hL => lv_istore C.exec C.bytes hd (ax_has hL) (by simp only [List.length_cons]; omega) rfl (fun ls1 h1 => kk H ls1 locs hP hD hS (ax_Lset (by simp only [List.length_cons]; omega) (fun w hw _ => ax_okw hp (Option.some.inj hw)) h1))
theorem ax_lload_4 (C : ax_C x Y i h mc ms) {a0 a1 a2 a3 : Option Value} {v : Int64} {r : List (Option Value)} (hd : decode i.2.1 pc = .ok (.lload 4, 2)) (kk : ax_V x Y ad kc ks Q N g (pc + 2) (a0 :: a1 :: a2 :: a3 :: some (.long v) :: r) (.long v :: st)) : ax_V x Y ad kc ks Q N g pc (a0 :: a1 :: a2 :: a3 :: some (.long v) :: r) (st) := fun H ls locs hP hD hS hL => lv_lload C.exec C.bytes hd (hL.2.2 4 (.long v) rfl) (kk H ls locs hP hD hS hL)
theorem ax_lstore_4 (C : ax_C x Y i h mc ms) {a0 a1 a2 a3 : Option Value} {z z2 : Option Value} {v : Int64} {r : List (Option Value)} (hd : decode i.2.1 pc = .ok (.lstore 4, 2)) (hp : ax_ok a3 = true) (kk : ax_V x Y ad kc ks Q N g (pc + 2) (a0 :: a1 :: a2 :: a3 :: some (.long v) :: none :: r) (st)) : ax_V x Y ad kc ks Q N g pc (a0 :: a1 :: a2 :: a3 :: z :: z2 :: r) (.long v :: st) := fun H ls locs hP hD hS hL => lv_lstore C.exec C.bytes hd (ax_has hL) (by simp only [List.length_cons]; omega) rfl (fun ls1 h1 => kk H ls1 locs hP hD hS (ax_Lset2 (by simp only [List.length_cons]; omega) (fun w hw _ => ax_okw hp (Option.some.inj hw)) h1))
theorem ax_aload_4 (C : ax_C x Y i h mc ms) {a0 a1 a2 a3 : Option Value} {v : Nat} {r : List (Option Value)} (hd : decode i.2.1 pc = .ok (.aload 4, 2)) (kk : ax_V x Y ad kc ks Q N g (pc + 2) (a0 :: a1 :: a2 :: a3 :: some (.ref v) :: r) (.ref v :: st)) : ax_V x Y ad kc ks Q N g pc (a0 :: a1 :: a2 :: a3 :: some (.ref v) :: r) (st) := fun H ls locs hP hD hS hL => lv_aload C.exec C.bytes hd (hL.2.2 4 (.ref v) rfl) (kk H ls locs hP hD hS hL)
theorem ax_astore_4 (C : ax_C x Y i h mc ms) {a0 a1 a2 a3 : Option Value} {z : Option Value} {v : Nat} {r : List (Option Value)} (hd : decode i.2.1 pc = .ok (.astore 4, 2)) (hp : ax_ok a3 = true) (kk : ax_V x Y ad kc ks Q N g (pc + 2) (a0 :: a1 :: a2 :: a3 :: some (.ref v) :: r) (st)) : ax_V x Y ad kc ks Q N g pc (a0 :: a1 :: a2 :: a3 :: z :: r) (.ref v :: st) := fun H ls locs hP hD hS hL => lv_astore C.exec C.bytes hd (ax_has hL) (by simp only [List.length_cons]; omega) rfl (fun ls1 h1 => kk H ls1 locs hP hD hS (ax_Lset (by simp only [List.length_cons]; omega) (fun w hw _ => ax_okw hp (Option.some.inj hw)) h1))
theorem ax_iinc_4 (C : ax_C x Y i h mc ms) {a0 a1 a2 a3 : Option Value} {v : Int32} {r : List (Option Value)} {d : Int} (hd : decode i.2.1 pc = .ok (.iinc 4 d, 3)) (w : Int32) (hw : Int32.ofInt d = w) (hp : ax_ok a3 = true) (kk : ax_V x Y ad kc ks Q N g (pc + 3) (a0 :: a1 :: a2 :: a3 :: some (.int (v + w)) :: r) (st)) : ax_V x Y ad kc ks Q N g pc (a0 :: a1 :: a2 :: a3 :: some (.int v) :: r) (st) := fun H ls locs hP hD hS hL => lv_iinc (lv := (4, .int v) :: ax_as (a0 :: a1 :: a2 :: a3 :: some (.int v) :: r)) (k := 0) C.exec C.bytes hd ⟨hL.1, hL.2.1, fun q hq => by rcases List.mem_cons.mp hq with e | e; exact (by rw [e]; exact hL.2.2 4 (.int v) rfl); exact (ax_has hL).2.2 q e⟩ rfl (by rw [hw]) (by simp only [List.length_cons]; omega) rfl (fun ls1 h1 => kk H ls1 locs hP hD hS (ax_Lset (i := 4) (v := .int (v + w)) (by simp only [List.length_cons]; omega) (fun w hw _ => ax_okw hp (Option.some.inj hw)) (ax_hsub h1 (fun q hq => by rcases List.mem_cons.mp hq with e | e; exact (by rw [e]; exact List.mem_cons_self); exact List.mem_cons_of_mem _ (List.mem_filter.mpr ⟨List.mem_cons_of_mem _ (List.mem_filter.mp e).1, (List.mem_filter.mp e).2⟩)))))
theorem ax_iload_5 (C : ax_C x Y i h mc ms) {a0 a1 a2 a3 a4 : Option Value} {v : Int32} {r : List (Option Value)} (hd : decode i.2.1 pc = .ok (.iload 5, 2)) (kk : ax_V x Y ad kc ks Q N g (pc + 2) (a0 :: a1 :: a2 :: a3 :: a4 :: some (.int v) :: r) (.int v :: st)) : ax_V x Y ad kc ks Q N g pc (a0 :: a1 :: a2 :: a3 :: a4 :: some (.int v) :: r) (st) := fun H ls locs hP hD hS hL => lv_iload C.exec C.bytes hd (hL.2.2 5 (.int v) rfl) (kk H ls locs hP hD hS hL)
theorem ax_istore_5 (C : ax_C x Y i h mc ms) {a0 a1 a2 a3 a4 : Option Value} {z : Option Value} {v : Int32} {r : List (Option Value)} (hd : decode i.2.1 pc = .ok (.istore 5, 2)) (hp : ax_ok a4 = true) (kk : ax_V x Y ad kc ks Q N g (pc + 2) (a0 :: a1 :: a2 :: a3 :: a4 :: some (.int v) :: r) (st)) : ax_V x Y ad kc ks Q N g pc (a0 :: a1 :: a2 :: a3 :: a4 :: z :: r) (.int v :: st) := fun H ls locs hP hD hS hL => lv_istore C.exec C.bytes hd (ax_has hL) (by simp only [List.length_cons]; omega) rfl (fun ls1 h1 => kk H ls1 locs hP hD hS (ax_Lset (by simp only [List.length_cons]; omega) (fun w hw _ => ax_okw hp (Option.some.inj hw)) h1))
theorem ax_lload_5 (C : ax_C x Y i h mc ms) {a0 a1 a2 a3 a4 : Option Value} {v : Int64} {r : List (Option Value)} (hd : decode i.2.1 pc = .ok (.lload 5, 2)) (kk : ax_V x Y ad kc ks Q N g (pc + 2) (a0 :: a1 :: a2 :: a3 :: a4 :: some (.long v) :: r) (.long v :: st)) : ax_V x Y ad kc ks Q N g pc (a0 :: a1 :: a2 :: a3 :: a4 :: some (.long v) :: r) (st) := fun H ls locs hP hD hS hL => lv_lload C.exec C.bytes hd (hL.2.2 5 (.long v) rfl) (kk H ls locs hP hD hS hL)
theorem ax_lstore_5 (C : ax_C x Y i h mc ms) {a0 a1 a2 a3 a4 : Option Value} {z z2 : Option Value} {v : Int64} {r : List (Option Value)} (hd : decode i.2.1 pc = .ok (.lstore 5, 2)) (hp : ax_ok a4 = true) (kk : ax_V x Y ad kc ks Q N g (pc + 2) (a0 :: a1 :: a2 :: a3 :: a4 :: some (.long v) :: none :: r) (st)) : ax_V x Y ad kc ks Q N g pc (a0 :: a1 :: a2 :: a3 :: a4 :: z :: z2 :: r) (.long v :: st) := fun H ls locs hP hD hS hL => lv_lstore C.exec C.bytes hd (ax_has hL) (by simp only [List.length_cons]; omega) rfl (fun ls1 h1 => kk H ls1 locs hP hD hS (ax_Lset2 (by simp only [List.length_cons]; omega) (fun w hw _ => ax_okw hp (Option.some.inj hw)) h1))
theorem ax_aload_5 (C : ax_C x Y i h mc ms) {a0 a1 a2 a3 a4 : Option Value} {v : Nat} {r : List (Option Value)} (hd : decode i.2.1 pc = .ok (.aload 5, 2)) (kk : ax_V x Y ad kc ks Q N g (pc + 2) (a0 :: a1 :: a2 :: a3 :: a4 :: some (.ref v) :: r) (.ref v :: st)) : ax_V x Y ad kc ks Q N g pc (a0 :: a1 :: a2 :: a3 :: a4 :: some (.ref v) :: r) (st) := fun H ls locs hP hD hS hL => lv_aload C.exec C.bytes hd (hL.2.2 5 (.ref v) rfl) (kk H ls locs hP hD hS hL)
theorem ax_astore_5 (C : ax_C x Y i h mc ms) {a0 a1 a2 a3 a4 : Option Value} {z : Option Value} {v : Nat} {r : List (Option Value)} (hd : decode i.2.1 pc = .ok (.astore 5, 2)) (hp : ax_ok a4 = true) (kk : ax_V x Y ad kc ks Q N g (pc + 2) (a0 :: a1 :: a2 :: a3 :: a4 :: some (.ref v) :: r) (st)) : ax_V x Y ad kc ks Q N g pc (a0 :: a1 :: a2 :: a3 :: a4 :: z :: r) (.ref v :: st) := fun H ls locs hP hD hS hL => lv_astore C.exec C.bytes hd (ax_has hL) (by simp only [List.length_cons]; omega) rfl (fun ls1 h1 => kk H ls1 locs hP hD hS (ax_Lset (by simp only [List.length_cons]; omega) (fun w hw _ => ax_okw hp (Option.some.inj hw)) h1))
theorem ax_iinc_5 (C : ax_C x Y i h mc ms) {a0 a1 a2 a3 a4 : Option Value} {v : Int32} {r : List (Option Value)} {d : Int} (hd : decode i.2.1 pc = .ok (.iinc 5 d, 3)) (w : Int32) (hw : Int32.ofInt d = w) (hp : ax_ok a4 = true) (kk : ax_V x Y ad kc ks Q N g (pc + 3) (a0 :: a1 :: a2 :: a3 :: a4 :: some (.int (v + w)) :: r) (st)) : ax_V x Y ad kc ks Q N g pc (a0 :: a1 :: a2 :: a3 :: a4 :: some (.int v) :: r) (st) := fun H ls locs hP hD hS hL => lv_iinc (lv := (5, .int v) :: ax_as (a0 :: a1 :: a2 :: a3 :: a4 :: some (.int v) :: r)) (k := 0) C.exec C.bytes hd ⟨hL.1, hL.2.1, fun q hq => by rcases List.mem_cons.mp hq with e | e; exact (by rw [e]; exact hL.2.2 5 (.int v) rfl); exact (ax_has hL).2.2 q e⟩ rfl (by rw [hw]) (by simp only [List.length_cons]; omega) rfl (fun ls1 h1 => kk H ls1 locs hP hD hS (ax_Lset (i := 5) (v := .int (v + w)) (by simp only [List.length_cons]; omega) (fun w hw _ => ax_okw hp (Option.some.inj hw)) (ax_hsub h1 (fun q hq => by rcases List.mem_cons.mp hq with e | e; exact (by rw [e]; exact List.mem_cons_self); exact List.mem_cons_of_mem _ (List.mem_filter.mpr ⟨List.mem_cons_of_mem _ (List.mem_filter.mp e).1, (List.mem_filter.mp e).2⟩)))))
theorem ax_iload_6 (C : ax_C x Y i h mc ms) {a0 a1 a2 a3 a4 a5 : Option Value} {v : Int32} {r : List (Option Value)} (hd : decode i.2.1 pc = .ok (.iload 6, 2)) (kk : ax_V x Y ad kc ks Q N g (pc + 2) (a0 :: a1 :: a2 :: a3 :: a4 :: a5 :: some (.int v) :: r) (.int v :: st)) : ax_V x Y ad kc ks Q N g pc (a0 :: a1 :: a2 :: a3 :: a4 :: a5 :: some (.int v) :: r) (st) := fun H ls locs hP hD hS hL => lv_iload C.exec C.bytes hd (hL.2.2 6 (.int v) rfl) (kk H ls locs hP hD hS hL)
theorem ax_istore_6 (C : ax_C x Y i h mc ms) {a0 a1 a2 a3 a4 a5 : Option Value} {z : Option Value} {v : Int32} {r : List (Option Value)} (hd : decode i.2.1 pc = .ok (.istore 6, 2)) (hp : ax_ok a5 = true) (kk : ax_V x Y ad kc ks Q N g (pc + 2) (a0 :: a1 :: a2 :: a3 :: a4 :: a5 :: some (.int v) :: r) (st)) : ax_V x Y ad kc ks Q N g pc (a0 :: a1 :: a2 :: a3 :: a4 :: a5 :: z :: r) (.int v :: st) := fun H ls locs hP hD hS hL => lv_istore C.exec C.bytes hd (ax_has hL) (by simp only [List.length_cons]; omega) rfl (fun ls1 h1 => kk H ls1 locs hP hD hS (ax_Lset (by simp only [List.length_cons]; omega) (fun w hw _ => ax_okw hp (Option.some.inj hw)) h1))
theorem ax_lload_6 (C : ax_C x Y i h mc ms) {a0 a1 a2 a3 a4 a5 : Option Value} {v : Int64} {r : List (Option Value)} (hd : decode i.2.1 pc = .ok (.lload 6, 2)) (kk : ax_V x Y ad kc ks Q N g (pc + 2) (a0 :: a1 :: a2 :: a3 :: a4 :: a5 :: some (.long v) :: r) (.long v :: st)) : ax_V x Y ad kc ks Q N g pc (a0 :: a1 :: a2 :: a3 :: a4 :: a5 :: some (.long v) :: r) (st) := fun H ls locs hP hD hS hL => lv_lload C.exec C.bytes hd (hL.2.2 6 (.long v) rfl) (kk H ls locs hP hD hS hL)
theorem ax_lstore_6 (C : ax_C x Y i h mc ms) {a0 a1 a2 a3 a4 a5 : Option Value} {z z2 : Option Value} {v : Int64} {r : List (Option Value)} (hd : decode i.2.1 pc = .ok (.lstore 6, 2)) (hp : ax_ok a5 = true) (kk : ax_V x Y ad kc ks Q N g (pc + 2) (a0 :: a1 :: a2 :: a3 :: a4 :: a5 :: some (.long v) :: none :: r) (st)) : ax_V x Y ad kc ks Q N g pc (a0 :: a1 :: a2 :: a3 :: a4 :: a5 :: z :: z2 :: r) (.long v :: st) := fun H ls locs hP hD hS hL => lv_lstore C.exec C.bytes hd (ax_has hL) (by simp only [List.length_cons]; omega) rfl (fun ls1 h1 => kk H ls1 locs hP hD hS (ax_Lset2 (by simp only [List.length_cons]; omega) (fun w hw _ => ax_okw hp (Option.some.inj hw)) h1))
theorem ax_aload_6 (C : ax_C x Y i h mc ms) {a0 a1 a2 a3 a4 a5 : Option Value} {v : Nat} {r : List (Option Value)} (hd : decode i.2.1 pc = .ok (.aload 6, 2)) (kk : ax_V x Y ad kc ks Q N g (pc + 2) (a0 :: a1 :: a2 :: a3 :: a4 :: a5 :: some (.ref v) :: r) (.ref v :: st)) : ax_V x Y ad kc ks Q N g pc (a0 :: a1 :: a2 :: a3 :: a4 :: a5 :: some (.ref v) :: r) (st) := fun H ls locs hP hD hS hL => lv_aload C.exec C.bytes hd (hL.2.2 6 (.ref v) rfl) (kk H ls locs hP hD hS hL)
theorem ax_astore_6 (C : ax_C x Y i h mc ms) {a0 a1 a2 a3 a4 a5 : Option Value} {z : Option Value} {v : Nat} {r : List (Option Value)} (hd : decode i.2.1 pc = .ok (.astore 6, 2)) (hp : ax_ok a5 = true) (kk : ax_V x Y ad kc ks Q N g (pc + 2) (a0 :: a1 :: a2 :: a3 :: a4 :: a5 :: some (.ref v) :: r) (st)) : ax_V x Y ad kc ks Q N g pc (a0 :: a1 :: a2 :: a3 :: a4 :: a5 :: z :: r) (.ref v :: st) := fun H ls locs hP hD hS hL => lv_astore C.exec C.bytes hd (ax_has hL) (by simp only [List.length_cons]; omega) rfl (fun ls1 h1 => kk H ls1 locs hP hD hS (ax_Lset (by simp only [List.length_cons]; omega) (fun w hw _ => ax_okw hp (Option.some.inj hw)) h1))
theorem ax_iinc_6 (C : ax_C x Y i h mc ms) {a0 a1 a2 a3 a4 a5 : Option Value} {v : Int32} {r : List (Option Value)} {d : Int} (hd : decode i.2.1 pc = .ok (.iinc 6 d, 3)) (w : Int32) (hw : Int32.ofInt d = w) (hp : ax_ok a5 = true) (kk : ax_V x Y ad kc ks Q N g (pc + 3) (a0 :: a1 :: a2 :: a3 :: a4 :: a5 :: some (.int (v + w)) :: r) (st)) : ax_V x Y ad kc ks Q N g pc (a0 :: a1 :: a2 :: a3 :: a4 :: a5 :: some (.int v) :: r) (st) := fun H ls locs hP hD hS hL => lv_iinc (lv := (6, .int v) :: ax_as (a0 :: a1 :: a2 :: a3 :: a4 :: a5 :: some (.int v) :: r)) (k := 0) C.exec C.bytes hd ⟨hL.1, hL.2.1, fun q hq => by rcases List.mem_cons.mp hq with e | e; exact (by rw [e]; exact hL.2.2 6 (.int v) rfl); exact (ax_has hL).2.2 q e⟩ rfl (by rw [hw]) (by simp only [List.length_cons]; omega) rfl (fun ls1 h1 => kk H ls1 locs hP hD hS (ax_Lset (i := 6) (v := .int (v + w)) (by simp only [List.length_cons]; omega) (fun w hw _ => ax_okw hp (Option.some.inj hw)) (ax_hsub h1 (fun q hq => by rcases List.mem_cons.mp hq with e | e; exact (by rw [e]; exact List.mem_cons_self); exact List.mem_cons_of_mem _ (List.mem_filter.mpr ⟨List.mem_cons_of_mem _ (List.mem_filter.mp e).1, (List.mem_filter.mp e).2⟩)))))
theorem ax_iload_7 (C : ax_C x Y i h mc ms) {a0 a1 a2 a3 a4 a5 a6 : Option Value} {v : Int32} {r : List (Option Value)} (hd : decode i.2.1 pc = .ok (.iload 7, 2)) (kk : ax_V x Y ad kc ks Q N g (pc + 2) (a0 :: a1 :: a2 :: a3 :: a4 :: a5 :: a6 :: some (.int v) :: r) (.int v :: st)) : ax_V x Y ad kc ks Q N g pc (a0 :: a1 :: a2 :: a3 :: a4 :: a5 :: a6 :: some (.int v) :: r) (st) := fun H ls locs hP hD hS hL => lv_iload C.exec C.bytes hd (hL.2.2 7 (.int v) rfl) (kk H ls locs hP hD hS hL)
theorem ax_istore_7 (C : ax_C x Y i h mc ms) {a0 a1 a2 a3 a4 a5 a6 : Option Value} {z : Option Value} {v : Int32} {r : List (Option Value)} (hd : decode i.2.1 pc = .ok (.istore 7, 2)) (hp : ax_ok a6 = true) (kk : ax_V x Y ad kc ks Q N g (pc + 2) (a0 :: a1 :: a2 :: a3 :: a4 :: a5 :: a6 :: some (.int v) :: r) (st)) : ax_V x Y ad kc ks Q N g pc (a0 :: a1 :: a2 :: a3 :: a4 :: a5 :: a6 :: z :: r) (.int v :: st) := fun H ls locs hP hD hS hL => lv_istore C.exec C.bytes hd (ax_has hL) (by simp only [List.length_cons]; omega) rfl (fun ls1 h1 => kk H ls1 locs hP hD hS (ax_Lset (by simp only [List.length_cons]; omega) (fun w hw _ => ax_okw hp (Option.some.inj hw)) h1))
theorem ax_lload_7 (C : ax_C x Y i h mc ms) {a0 a1 a2 a3 a4 a5 a6 : Option Value} {v : Int64} {r : List (Option Value)} (hd : decode i.2.1 pc = .ok (.lload 7, 2)) (kk : ax_V x Y ad kc ks Q N g (pc + 2) (a0 :: a1 :: a2 :: a3 :: a4 :: a5 :: a6 :: some (.long v) :: r) (.long v :: st)) : ax_V x Y ad kc ks Q N g pc (a0 :: a1 :: a2 :: a3 :: a4 :: a5 :: a6 :: some (.long v) :: r) (st) := fun H ls locs hP hD hS hL => lv_lload C.exec C.bytes hd (hL.2.2 7 (.long v) rfl) (kk H ls locs hP hD hS hL)
theorem ax_lstore_7 (C : ax_C x Y i h mc ms) {a0 a1 a2 a3 a4 a5 a6 : Option Value} {z z2 : Option Value} {v : Int64} {r : List (Option Value)} (hd : decode i.2.1 pc = .ok (.lstore 7, 2)) (hp : ax_ok a6 = true) (kk : ax_V x Y ad kc ks Q N g (pc + 2) (a0 :: a1 :: a2 :: a3 :: a4 :: a5 :: a6 :: some (.long v) :: none :: r) (st)) : ax_V x Y ad kc ks Q N g pc (a0 :: a1 :: a2 :: a3 :: a4 :: a5 :: a6 :: z :: z2 :: r) (.long v :: st) := fun H ls locs hP hD hS hL => lv_lstore C.exec C.bytes hd (ax_has hL) (by simp only [List.length_cons]; omega) rfl (fun ls1 h1 => kk H ls1 locs hP hD hS (ax_Lset2 (by simp only [List.length_cons]; omega) (fun w hw _ => ax_okw hp (Option.some.inj hw)) h1))
theorem ax_aload_7 (C : ax_C x Y i h mc ms) {a0 a1 a2 a3 a4 a5 a6 : Option Value} {v : Nat} {r : List (Option Value)} (hd : decode i.2.1 pc = .ok (.aload 7, 2)) (kk : ax_V x Y ad kc ks Q N g (pc + 2) (a0 :: a1 :: a2 :: a3 :: a4 :: a5 :: a6 :: some (.ref v) :: r) (.ref v :: st)) : ax_V x Y ad kc ks Q N g pc (a0 :: a1 :: a2 :: a3 :: a4 :: a5 :: a6 :: some (.ref v) :: r) (st) := fun H ls locs hP hD hS hL => lv_aload C.exec C.bytes hd (hL.2.2 7 (.ref v) rfl) (kk H ls locs hP hD hS hL)
theorem ax_astore_7 (C : ax_C x Y i h mc ms) {a0 a1 a2 a3 a4 a5 a6 : Option Value} {z : Option Value} {v : Nat} {r : List (Option Value)} (hd : decode i.2.1 pc = .ok (.astore 7, 2)) (hp : ax_ok a6 = true) (kk : ax_V x Y ad kc ks Q N g (pc + 2) (a0 :: a1 :: a2 :: a3 :: a4 :: a5 :: a6 :: some (.ref v) :: r) (st)) : ax_V x Y ad kc ks Q N g pc (a0 :: a1 :: a2 :: a3 :: a4 :: a5 :: a6 :: z :: r) (.ref v :: st) := fun H ls locs hP hD hS hL => lv_astore C.exec C.bytes hd (ax_has hL) (by simp only [List.length_cons]; omega) rfl (fun ls1 h1 => kk H ls1 locs hP hD hS (ax_Lset (by simp only [List.length_cons]; omega) (fun w hw _ => ax_okw hp (Option.some.inj hw)) h1))
theorem ax_iinc_7 (C : ax_C x Y i h mc ms) {a0 a1 a2 a3 a4 a5 a6 : Option Value} {v : Int32} {r : List (Option Value)} {d : Int} (hd : decode i.2.1 pc = .ok (.iinc 7 d, 3)) (w : Int32) (hw : Int32.ofInt d = w) (hp : ax_ok a6 = true) (kk : ax_V x Y ad kc ks Q N g (pc + 3) (a0 :: a1 :: a2 :: a3 :: a4 :: a5 :: a6 :: some (.int (v + w)) :: r) (st)) : ax_V x Y ad kc ks Q N g pc (a0 :: a1 :: a2 :: a3 :: a4 :: a5 :: a6 :: some (.int v) :: r) (st) := fun H ls locs hP hD hS hL => lv_iinc (lv := (7, .int v) :: ax_as (a0 :: a1 :: a2 :: a3 :: a4 :: a5 :: a6 :: some (.int v) :: r)) (k := 0) C.exec C.bytes hd ⟨hL.1, hL.2.1, fun q hq => by rcases List.mem_cons.mp hq with e | e; exact (by rw [e]; exact hL.2.2 7 (.int v) rfl); exact (ax_has hL).2.2 q e⟩ rfl (by rw [hw]) (by simp only [List.length_cons]; omega) rfl (fun ls1 h1 => kk H ls1 locs hP hD hS (ax_Lset (i := 7) (v := .int (v + w)) (by simp only [List.length_cons]; omega) (fun w hw _ => ax_okw hp (Option.some.inj hw)) (ax_hsub h1 (fun q hq => by rcases List.mem_cons.mp hq with e | e; exact (by rw [e]; exact List.mem_cons_self); exact List.mem_cons_of_mem _ (List.mem_filter.mpr ⟨List.mem_cons_of_mem _ (List.mem_filter.mp e).1, (List.mem_filter.mp e).2⟩)))))
theorem ax_iload_8 (C : ax_C x Y i h mc ms) {a0 a1 a2 a3 a4 a5 a6 a7 : Option Value} {v : Int32} {r : List (Option Value)} (hd : decode i.2.1 pc = .ok (.iload 8, 2)) (kk : ax_V x Y ad kc ks Q N g (pc + 2) (a0 :: a1 :: a2 :: a3 :: a4 :: a5 :: a6 :: a7 :: some (.int v) :: r) (.int v :: st)) : ax_V x Y ad kc ks Q N g pc (a0 :: a1 :: a2 :: a3 :: a4 :: a5 :: a6 :: a7 :: some (.int v) :: r) (st) := fun H ls locs hP hD hS hL => lv_iload C.exec C.bytes hd (hL.2.2 8 (.int v) rfl) (kk H ls locs hP hD hS hL)
theorem ax_istore_8 (C : ax_C x Y i h mc ms) {a0 a1 a2 a3 a4 a5 a6 a7 : Option Value} {z : Option Value} {v : Int32} {r : List (Option Value)} (hd : decode i.2.1 pc = .ok (.istore 8, 2)) (hp : ax_ok a7 = true) (kk : ax_V x Y ad kc ks Q N g (pc + 2) (a0 :: a1 :: a2 :: a3 :: a4 :: a5 :: a6 :: a7 :: some (.int v) :: r) (st)) : ax_V x Y ad kc ks Q N g pc (a0 :: a1 :: a2 :: a3 :: a4 :: a5 :: a6 :: a7 :: z :: r) (.int v :: st) := fun H ls locs hP hD hS hL => lv_istore C.exec C.bytes hd (ax_has hL) (by simp only [List.length_cons]; omega) rfl (fun ls1 h1 => kk H ls1 locs hP hD hS (ax_Lset (by simp only [List.length_cons]; omega) (fun w hw _ => ax_okw hp (Option.some.inj hw)) h1))
theorem ax_lload_8 (C : ax_C x Y i h mc ms) {a0 a1 a2 a3 a4 a5 a6 a7 : Option Value} {v : Int64} {r : List (Option Value)} (hd : decode i.2.1 pc = .ok (.lload 8, 2)) (kk : ax_V x Y ad kc ks Q N g (pc + 2) (a0 :: a1 :: a2 :: a3 :: a4 :: a5 :: a6 :: a7 :: some (.long v) :: r) (.long v :: st)) : ax_V x Y ad kc ks Q N g pc (a0 :: a1 :: a2 :: a3 :: a4 :: a5 :: a6 :: a7 :: some (.long v) :: r) (st) := fun H ls locs hP hD hS hL => lv_lload C.exec C.bytes hd (hL.2.2 8 (.long v) rfl) (kk H ls locs hP hD hS hL)
theorem ax_lstore_8 (C : ax_C x Y i h mc ms) {a0 a1 a2 a3 a4 a5 a6 a7 : Option Value} {z z2 : Option Value} {v : Int64} {r : List (Option Value)} (hd : decode i.2.1 pc = .ok (.lstore 8, 2)) (hp : ax_ok a7 = true) (kk : ax_V x Y ad kc ks Q N g (pc + 2) (a0 :: a1 :: a2 :: a3 :: a4 :: a5 :: a6 :: a7 :: some (.long v) :: none :: r) (st)) : ax_V x Y ad kc ks Q N g pc (a0 :: a1 :: a2 :: a3 :: a4 :: a5 :: a6 :: a7 :: z :: z2 :: r) (.long v :: st) := fun H ls locs hP hD hS hL => lv_lstore C.exec C.bytes hd (ax_has hL) (by simp only [List.length_cons]; omega) rfl (fun ls1 h1 => kk H ls1 locs hP hD hS (ax_Lset2 (by simp only [List.length_cons]; omega) (fun w hw _ => ax_okw hp (Option.some.inj hw)) h1))
theorem ax_aload_8 (C : ax_C x Y i h mc ms) {a0 a1 a2 a3 a4 a5 a6 a7 : Option Value} {v : Nat} {r : List (Option Value)} (hd : decode i.2.1 pc = .ok (.aload 8, 2)) (kk : ax_V x Y ad kc ks Q N g (pc + 2) (a0 :: a1 :: a2 :: a3 :: a4 :: a5 :: a6 :: a7 :: some (.ref v) :: r) (.ref v :: st)) : ax_V x Y ad kc ks Q N g pc (a0 :: a1 :: a2 :: a3 :: a4 :: a5 :: a6 :: a7 :: some (.ref v) :: r) (st) := fun H ls locs hP hD hS hL => lv_aload C.exec C.bytes hd (hL.2.2 8 (.ref v) rfl) (kk H ls locs hP hD hS hL)
theorem ax_astore_8 (C : ax_C x Y i h mc ms) {a0 a1 a2 a3 a4 a5 a6 a7 : Option Value} {z : Option Value} {v : Nat} {r : List (Option Value)} (hd : decode i.2.1 pc = .ok (.astore 8, 2)) (hp : ax_ok a7 = true) (kk : ax_V x Y ad kc ks Q N g (pc + 2) (a0 :: a1 :: a2 :: a3 :: a4 :: a5 :: a6 :: a7 :: some (.ref v) :: r) (st)) : ax_V x Y ad kc ks Q N g pc (a0 :: a1 :: a2 :: a3 :: a4 :: a5 :: a6 :: a7 :: z :: r) (.ref v :: st) := fun H ls locs hP hD hS hL => lv_astore C.exec C.bytes hd (ax_has hL) (by simp only [List.length_cons]; omega) rfl (fun ls1 h1 => kk H ls1 locs hP hD hS (ax_Lset (by simp only [List.length_cons]; omega) (fun w hw _ => ax_okw hp (Option.some.inj hw)) h1))
theorem ax_iinc_8 (C : ax_C x Y i h mc ms) {a0 a1 a2 a3 a4 a5 a6 a7 : Option Value} {v : Int32} {r : List (Option Value)} {d : Int} (hd : decode i.2.1 pc = .ok (.iinc 8 d, 3)) (w : Int32) (hw : Int32.ofInt d = w) (hp : ax_ok a7 = true) (kk : ax_V x Y ad kc ks Q N g (pc + 3) (a0 :: a1 :: a2 :: a3 :: a4 :: a5 :: a6 :: a7 :: some (.int (v + w)) :: r) (st)) : ax_V x Y ad kc ks Q N g pc (a0 :: a1 :: a2 :: a3 :: a4 :: a5 :: a6 :: a7 :: some (.int v) :: r) (st) := fun H ls locs hP hD hS hL => lv_iinc (lv := (8, .int v) :: ax_as (a0 :: a1 :: a2 :: a3 :: a4 :: a5 :: a6 :: a7 :: some (.int v) :: r)) (k := 0) C.exec C.bytes hd ⟨hL.1, hL.2.1, fun q hq => by rcases List.mem_cons.mp hq with e | e; exact (by rw [e]; exact hL.2.2 8 (.int v) rfl); exact (ax_has hL).2.2 q e⟩ rfl (by rw [hw]) (by simp only [List.length_cons]; omega) rfl (fun ls1 h1 => kk H ls1 locs hP hD hS (ax_Lset (i := 8) (v := .int (v + w)) (by simp only [List.length_cons]; omega) (fun w hw _ => ax_okw hp (Option.some.inj hw)) (ax_hsub h1 (fun q hq => by rcases List.mem_cons.mp hq with e | e; exact (by rw [e]; exact List.mem_cons_self); exact List.mem_cons_of_mem _ (List.mem_filter.mpr ⟨List.mem_cons_of_mem _ (List.mem_filter.mp e).1, (List.mem_filter.mp e).2⟩)))))
theorem ax_iload_9 (C : ax_C x Y i h mc ms) {a0 a1 a2 a3 a4 a5 a6 a7 a8 : Option Value} {v : Int32} {r : List (Option Value)} (hd : decode i.2.1 pc = .ok (.iload 9, 2)) (kk : ax_V x Y ad kc ks Q N g (pc + 2) (a0 :: a1 :: a2 :: a3 :: a4 :: a5 :: a6 :: a7 :: a8 :: some (.int v) :: r) (.int v :: st)) : ax_V x Y ad kc ks Q N g pc (a0 :: a1 :: a2 :: a3 :: a4 :: a5 :: a6 :: a7 :: a8 :: some (.int v) :: r) (st) := fun H ls locs hP hD hS hL => lv_iload C.exec C.bytes hd (hL.2.2 9 (.int v) rfl) (kk H ls locs hP hD hS hL)
theorem ax_istore_9 (C : ax_C x Y i h mc ms) {a0 a1 a2 a3 a4 a5 a6 a7 a8 : Option Value} {z : Option Value} {v : Int32} {r : List (Option Value)} (hd : decode i.2.1 pc = .ok (.istore 9, 2)) (hp : ax_ok a8 = true) (kk : ax_V x Y ad kc ks Q N g (pc + 2) (a0 :: a1 :: a2 :: a3 :: a4 :: a5 :: a6 :: a7 :: a8 :: some (.int v) :: r) (st)) : ax_V x Y ad kc ks Q N g pc (a0 :: a1 :: a2 :: a3 :: a4 :: a5 :: a6 :: a7 :: a8 :: z :: r) (.int v :: st) := fun H ls locs hP hD hS hL => lv_istore C.exec C.bytes hd (ax_has hL) (by simp only [List.length_cons]; omega) rfl (fun ls1 h1 => kk H ls1 locs hP hD hS (ax_Lset (by simp only [List.length_cons]; omega) (fun w hw _ => ax_okw hp (Option.some.inj hw)) h1))
theorem ax_lload_9 (C : ax_C x Y i h mc ms) {a0 a1 a2 a3 a4 a5 a6 a7 a8 : Option Value} {v : Int64} {r : List (Option Value)} (hd : decode i.2.1 pc = .ok (.lload 9, 2)) (kk : ax_V x Y ad kc ks Q N g (pc + 2) (a0 :: a1 :: a2 :: a3 :: a4 :: a5 :: a6 :: a7 :: a8 :: some (.long v) :: r) (.long v :: st)) : ax_V x Y ad kc ks Q N g pc (a0 :: a1 :: a2 :: a3 :: a4 :: a5 :: a6 :: a7 :: a8 :: some (.long v) :: r) (st) := fun H ls locs hP hD hS hL => lv_lload C.exec C.bytes hd (hL.2.2 9 (.long v) rfl) (kk H ls locs hP hD hS hL)
theorem ax_lstore_9 (C : ax_C x Y i h mc ms) {a0 a1 a2 a3 a4 a5 a6 a7 a8 : Option Value} {z z2 : Option Value} {v : Int64} {r : List (Option Value)} (hd : decode i.2.1 pc = .ok (.lstore 9, 2)) (hp : ax_ok a8 = true) (kk : ax_V x Y ad kc ks Q N g (pc + 2) (a0 :: a1 :: a2 :: a3 :: a4 :: a5 :: a6 :: a7 :: a8 :: some (.long v) :: none :: r) (st)) : ax_V x Y ad kc ks Q N g pc (a0 :: a1 :: a2 :: a3 :: a4 :: a5 :: a6 :: a7 :: a8 :: z :: z2 :: r) (.long v :: st) := fun H ls locs hP hD hS hL => lv_lstore C.exec C.bytes hd (ax_has hL) (by simp only [List.length_cons]; omega) rfl (fun ls1 h1 => kk H ls1 locs hP hD hS (ax_Lset2 (by simp only [List.length_cons]; omega) (fun w hw _ => ax_okw hp (Option.some.inj hw)) h1))
theorem ax_aload_9 (C : ax_C x Y i h mc ms) {a0 a1 a2 a3 a4 a5 a6 a7 a8 : Option Value} {v : Nat} {r : List (Option Value)} (hd : decode i.2.1 pc = .ok (.aload 9, 2)) (kk : ax_V x Y ad kc ks Q N g (pc + 2) (a0 :: a1 :: a2 :: a3 :: a4 :: a5 :: a6 :: a7 :: a8 :: some (.ref v) :: r) (.ref v :: st)) : ax_V x Y ad kc ks Q N g pc (a0 :: a1 :: a2 :: a3 :: a4 :: a5 :: a6 :: a7 :: a8 :: some (.ref v) :: r) (st) := fun H ls locs hP hD hS hL => lv_aload C.exec C.bytes hd (hL.2.2 9 (.ref v) rfl) (kk H ls locs hP hD hS hL)
theorem ax_astore_9 (C : ax_C x Y i h mc ms) {a0 a1 a2 a3 a4 a5 a6 a7 a8 : Option Value} {z : Option Value} {v : Nat} {r : List (Option Value)} (hd : decode i.2.1 pc = .ok (.astore 9, 2)) (hp : ax_ok a8 = true) (kk : ax_V x Y ad kc ks Q N g (pc + 2) (a0 :: a1 :: a2 :: a3 :: a4 :: a5 :: a6 :: a7 :: a8 :: some (.ref v) :: r) (st)) : ax_V x Y ad kc ks Q N g pc (a0 :: a1 :: a2 :: a3 :: a4 :: a5 :: a6 :: a7 :: a8 :: z :: r) (.ref v :: st) := fun H ls locs hP hD hS hL => lv_astore C.exec C.bytes hd (ax_has hL) (by simp only [List.length_cons]; omega) rfl (fun ls1 h1 => kk H ls1 locs hP hD hS (ax_Lset (by simp only [List.length_cons]; omega) (fun w hw _ => ax_okw hp (Option.some.inj hw)) h1))
theorem ax_iinc_9 (C : ax_C x Y i h mc ms) {a0 a1 a2 a3 a4 a5 a6 a7 a8 : Option Value} {v : Int32} {r : List (Option Value)} {d : Int} (hd : decode i.2.1 pc = .ok (.iinc 9 d, 3)) (w : Int32) (hw : Int32.ofInt d = w) (hp : ax_ok a8 = true) (kk : ax_V x Y ad kc ks Q N g (pc + 3) (a0 :: a1 :: a2 :: a3 :: a4 :: a5 :: a6 :: a7 :: a8 :: some (.int (v + w)) :: r) (st)) : ax_V x Y ad kc ks Q N g pc (a0 :: a1 :: a2 :: a3 :: a4 :: a5 :: a6 :: a7 :: a8 :: some (.int v) :: r) (st) := fun H ls locs hP hD hS hL => lv_iinc (lv := (9, .int v) :: ax_as (a0 :: a1 :: a2 :: a3 :: a4 :: a5 :: a6 :: a7 :: a8 :: some (.int v) :: r)) (k := 0) C.exec C.bytes hd ⟨hL.1, hL.2.1, fun q hq => by rcases List.mem_cons.mp hq with e | e; exact (by rw [e]; exact hL.2.2 9 (.int v) rfl); exact (ax_has hL).2.2 q e⟩ rfl (by rw [hw]) (by simp only [List.length_cons]; omega) rfl (fun ls1 h1 => kk H ls1 locs hP hD hS (ax_Lset (i := 9) (v := .int (v + w)) (by simp only [List.length_cons]; omega) (fun w hw _ => ax_okw hp (Option.some.inj hw)) (ax_hsub h1 (fun q hq => by rcases List.mem_cons.mp hq with e | e; exact (by rw [e]; exact List.mem_cons_self); exact List.mem_cons_of_mem _ (List.mem_filter.mpr ⟨List.mem_cons_of_mem _ (List.mem_filter.mp e).1, (List.mem_filter.mp e).2⟩)))))
theorem ax_iload_10 (C : ax_C x Y i h mc ms) {a0 a1 a2 a3 a4 a5 a6 a7 a8 a9 : Option Value} {v : Int32} {r : List (Option Value)} (hd : decode i.2.1 pc = .ok (.iload 10, 2)) (kk : ax_V x Y ad kc ks Q N g (pc + 2) (a0 :: a1 :: a2 :: a3 :: a4 :: a5 :: a6 :: a7 :: a8 :: a9 :: some (.int v) :: r) (.int v :: st)) : ax_V x Y ad kc ks Q N g pc (a0 :: a1 :: a2 :: a3 :: a4 :: a5 :: a6 :: a7 :: a8 :: a9 :: some (.int v) :: r) (st) := fun H ls locs hP hD hS hL => lv_iload C.exec C.bytes hd (hL.2.2 10 (.int v) rfl) (kk H ls locs hP hD hS hL)
theorem ax_istore_10 (C : ax_C x Y i h mc ms) {a0 a1 a2 a3 a4 a5 a6 a7 a8 a9 : Option Value} {z : Option Value} {v : Int32} {r : List (Option Value)} (hd : decode i.2.1 pc = .ok (.istore 10, 2)) (hp : ax_ok a9 = true) (kk : ax_V x Y ad kc ks Q N g (pc + 2) (a0 :: a1 :: a2 :: a3 :: a4 :: a5 :: a6 :: a7 :: a8 :: a9 :: some (.int v) :: r) (st)) : ax_V x Y ad kc ks Q N g pc (a0 :: a1 :: a2 :: a3 :: a4 :: a5 :: a6 :: a7 :: a8 :: a9 :: z :: r) (.int v :: st) := fun H ls locs hP hD hS hL => lv_istore C.exec C.bytes hd (ax_has hL) (by simp only [List.length_cons]; omega) rfl (fun ls1 h1 => kk H ls1 locs hP hD hS (ax_Lset (by simp only [List.length_cons]; omega) (fun w hw _ => ax_okw hp (Option.some.inj hw)) h1))
theorem ax_lload_10 (C : ax_C x Y i h mc ms) {a0 a1 a2 a3 a4 a5 a6 a7 a8 a9 : Option Value} {v : Int64} {r : List (Option Value)} (hd : decode i.2.1 pc = .ok (.lload 10, 2)) (kk : ax_V x Y ad kc ks Q N g (pc + 2) (a0 :: a1 :: a2 :: a3 :: a4 :: a5 :: a6 :: a7 :: a8 :: a9 :: some (.long v) :: r) (.long v :: st)) : ax_V x Y ad kc ks Q N g pc (a0 :: a1 :: a2 :: a3 :: a4 :: a5 :: a6 :: a7 :: a8 :: a9 :: some (.long v) :: r) (st) := fun H ls locs hP hD hS hL => lv_lload C.exec C.bytes hd (hL.2.2 10 (.long v) rfl) (kk H ls locs hP hD hS hL)
theorem ax_lstore_10 (C : ax_C x Y i h mc ms) {a0 a1 a2 a3 a4 a5 a6 a7 a8 a9 : Option Value} {z z2 : Option Value} {v : Int64} {r : List (Option Value)} (hd : decode i.2.1 pc = .ok (.lstore 10, 2)) (hp : ax_ok a9 = true) (kk : ax_V x Y ad kc ks Q N g (pc + 2) (a0 :: a1 :: a2 :: a3 :: a4 :: a5 :: a6 :: a7 :: a8 :: a9 :: some (.long v) :: none :: r) (st)) : ax_V x Y ad kc ks Q N g pc (a0 :: a1 :: a2 :: a3 :: a4 :: a5 :: a6 :: a7 :: a8 :: a9 :: z :: z2 :: r) (.long v :: st) := fun H ls locs hP hD hS hL => lv_lstore C.exec C.bytes hd (ax_has hL) (by simp only [List.length_cons]; omega) rfl (fun ls1 h1 => kk H ls1 locs hP hD hS (ax_Lset2 (by simp only [List.length_cons]; omega) (fun w hw _ => ax_okw hp (Option.some.inj hw)) h1))
theorem ax_aload_10 (C : ax_C x Y i h mc ms) {a0 a1 a2 a3 a4 a5 a6 a7 a8 a9 : Option Value} {v : Nat} {r : List (Option Value)} (hd : decode i.2.1 pc = .ok (.aload 10, 2)) (kk : ax_V x Y ad kc ks Q N g (pc + 2) (a0 :: a1 :: a2 :: a3 :: a4 :: a5 :: a6 :: a7 :: a8 :: a9 :: some (.ref v) :: r) (.ref v :: st)) : ax_V x Y ad kc ks Q N g pc (a0 :: a1 :: a2 :: a3 :: a4 :: a5 :: a6 :: a7 :: a8 :: a9 :: some (.ref v) :: r) (st) := fun H ls locs hP hD hS hL => lv_aload C.exec C.bytes hd (hL.2.2 10 (.ref v) rfl) (kk H ls locs hP hD hS hL)
theorem ax_astore_10 (C : ax_C x Y i h mc ms) {a0 a1 a2 a3 a4 a5 a6 a7 a8 a9 : Option Value} {z : Option Value} {v : Nat} {r : List (Option Value)} (hd : decode i.2.1 pc = .ok (.astore 10, 2)) (hp : ax_ok a9 = true) (kk : ax_V x Y ad kc ks Q N g (pc + 2) (a0 :: a1 :: a2 :: a3 :: a4 :: a5 :: a6 :: a7 :: a8 :: a9 :: some (.ref v) :: r) (st)) : ax_V x Y ad kc ks Q N g pc (a0 :: a1 :: a2 :: a3 :: a4 :: a5 :: a6 :: a7 :: a8 :: a9 :: z :: r) (.ref v :: st) := fun H ls locs hP hD hS hL => lv_astore C.exec C.bytes hd (ax_has hL) (by simp only [List.length_cons]; omega) rfl (fun ls1 h1 => kk H ls1 locs hP hD hS (ax_Lset (by simp only [List.length_cons]; omega) (fun w hw _ => ax_okw hp (Option.some.inj hw)) h1))
theorem ax_iinc_10 (C : ax_C x Y i h mc ms) {a0 a1 a2 a3 a4 a5 a6 a7 a8 a9 : Option Value} {v : Int32} {r : List (Option Value)} {d : Int} (hd : decode i.2.1 pc = .ok (.iinc 10 d, 3)) (w : Int32) (hw : Int32.ofInt d = w) (hp : ax_ok a9 = true) (kk : ax_V x Y ad kc ks Q N g (pc + 3) (a0 :: a1 :: a2 :: a3 :: a4 :: a5 :: a6 :: a7 :: a8 :: a9 :: some (.int (v + w)) :: r) (st)) : ax_V x Y ad kc ks Q N g pc (a0 :: a1 :: a2 :: a3 :: a4 :: a5 :: a6 :: a7 :: a8 :: a9 :: some (.int v) :: r) (st) := fun H ls locs hP hD hS hL => lv_iinc (lv := (10, .int v) :: ax_as (a0 :: a1 :: a2 :: a3 :: a4 :: a5 :: a6 :: a7 :: a8 :: a9 :: some (.int v) :: r)) (k := 0) C.exec C.bytes hd ⟨hL.1, hL.2.1, fun q hq => by rcases List.mem_cons.mp hq with e | e; exact (by rw [e]; exact hL.2.2 10 (.int v) rfl); exact (ax_has hL).2.2 q e⟩ rfl (by rw [hw]) (by simp only [List.length_cons]; omega) rfl (fun ls1 h1 => kk H ls1 locs hP hD hS (ax_Lset (i := 10) (v := .int (v + w)) (by simp only [List.length_cons]; omega) (fun w hw _ => ax_okw hp (Option.some.inj hw)) (ax_hsub h1 (fun q hq => by rcases List.mem_cons.mp hq with e | e; exact (by rw [e]; exact List.mem_cons_self); exact List.mem_cons_of_mem _ (List.mem_filter.mpr ⟨List.mem_cons_of_mem _ (List.mem_filter.mp e).1, (List.mem_filter.mp e).2⟩)))))
theorem ax_iload_11 (C : ax_C x Y i h mc ms) {a0 a1 a2 a3 a4 a5 a6 a7 a8 a9 a10 : Option Value} {v : Int32} {r : List (Option Value)} (hd : decode i.2.1 pc = .ok (.iload 11, 2)) (kk : ax_V x Y ad kc ks Q N g (pc + 2) (a0 :: a1 :: a2 :: a3 :: a4 :: a5 :: a6 :: a7 :: a8 :: a9 :: a10 :: some (.int v) :: r) (.int v :: st)) : ax_V x Y ad kc ks Q N g pc (a0 :: a1 :: a2 :: a3 :: a4 :: a5 :: a6 :: a7 :: a8 :: a9 :: a10 :: some (.int v) :: r) (st) := fun H ls locs hP hD hS hL => lv_iload C.exec C.bytes hd (hL.2.2 11 (.int v) rfl) (kk H ls locs hP hD hS hL)
theorem ax_istore_11 (C : ax_C x Y i h mc ms) {a0 a1 a2 a3 a4 a5 a6 a7 a8 a9 a10 : Option Value} {z : Option Value} {v : Int32} {r : List (Option Value)} (hd : decode i.2.1 pc = .ok (.istore 11, 2)) (hp : ax_ok a10 = true) (kk : ax_V x Y ad kc ks Q N g (pc + 2) (a0 :: a1 :: a2 :: a3 :: a4 :: a5 :: a6 :: a7 :: a8 :: a9 :: a10 :: some (.int v) :: r) (st)) : ax_V x Y ad kc ks Q N g pc (a0 :: a1 :: a2 :: a3 :: a4 :: a5 :: a6 :: a7 :: a8 :: a9 :: a10 :: z :: r) (.int v :: st) := fun H ls locs hP hD hS hL => lv_istore C.exec C.bytes hd (ax_has hL) (by simp only [List.length_cons]; omega) rfl (fun ls1 h1 => kk H ls1 locs hP hD hS (ax_Lset (by simp only [List.length_cons]; omega) (fun w hw _ => ax_okw hp (Option.some.inj hw)) h1))
theorem ax_lload_11 (C : ax_C x Y i h mc ms) {a0 a1 a2 a3 a4 a5 a6 a7 a8 a9 a10 : Option Value} {v : Int64} {r : List (Option Value)} (hd : decode i.2.1 pc = .ok (.lload 11, 2)) (kk : ax_V x Y ad kc ks Q N g (pc + 2) (a0 :: a1 :: a2 :: a3 :: a4 :: a5 :: a6 :: a7 :: a8 :: a9 :: a10 :: some (.long v) :: r) (.long v :: st)) : ax_V x Y ad kc ks Q N g pc (a0 :: a1 :: a2 :: a3 :: a4 :: a5 :: a6 :: a7 :: a8 :: a9 :: a10 :: some (.long v) :: r) (st) := fun H ls locs hP hD hS hL => lv_lload C.exec C.bytes hd (hL.2.2 11 (.long v) rfl) (kk H ls locs hP hD hS hL)
theorem ax_lstore_11 (C : ax_C x Y i h mc ms) {a0 a1 a2 a3 a4 a5 a6 a7 a8 a9 a10 : Option Value} {z z2 : Option Value} {v : Int64} {r : List (Option Value)} (hd : decode i.2.1 pc = .ok (.lstore 11, 2)) (hp : ax_ok a10 = true) (kk : ax_V x Y ad kc ks Q N g (pc + 2) (a0 :: a1 :: a2 :: a3 :: a4 :: a5 :: a6 :: a7 :: a8 :: a9 :: a10 :: some (.long v) :: none :: r) (st)) : ax_V x Y ad kc ks Q N g pc (a0 :: a1 :: a2 :: a3 :: a4 :: a5 :: a6 :: a7 :: a8 :: a9 :: a10 :: z :: z2 :: r) (.long v :: st) := fun H ls locs hP hD hS hL => lv_lstore C.exec C.bytes hd (ax_has hL) (by simp only [List.length_cons]; omega) rfl (fun ls1 h1 => kk H ls1 locs hP hD hS (ax_Lset2 (by simp only [List.length_cons]; omega) (fun w hw _ => ax_okw hp (Option.some.inj hw)) h1))
theorem ax_aload_11 (C : ax_C x Y i h mc ms) {a0 a1 a2 a3 a4 a5 a6 a7 a8 a9 a10 : Option Value} {v : Nat} {r : List (Option Value)} (hd : decode i.2.1 pc = .ok (.aload 11, 2)) (kk : ax_V x Y ad kc ks Q N g (pc + 2) (a0 :: a1 :: a2 :: a3 :: a4 :: a5 :: a6 :: a7 :: a8 :: a9 :: a10 :: some (.ref v) :: r) (.ref v :: st)) : ax_V x Y ad kc ks Q N g pc (a0 :: a1 :: a2 :: a3 :: a4 :: a5 :: a6 :: a7 :: a8 :: a9 :: a10 :: some (.ref v) :: r) (st) := fun H ls locs hP hD hS hL => lv_aload C.exec C.bytes hd (hL.2.2 11 (.ref v) rfl) (kk H ls locs hP hD hS hL)
theorem ax_astore_11 (C : ax_C x Y i h mc ms) {a0 a1 a2 a3 a4 a5 a6 a7 a8 a9 a10 : Option Value} {z : Option Value} {v : Nat} {r : List (Option Value)} (hd : decode i.2.1 pc = .ok (.astore 11, 2)) (hp : ax_ok a10 = true) (kk : ax_V x Y ad kc ks Q N g (pc + 2) (a0 :: a1 :: a2 :: a3 :: a4 :: a5 :: a6 :: a7 :: a8 :: a9 :: a10 :: some (.ref v) :: r) (st)) : ax_V x Y ad kc ks Q N g pc (a0 :: a1 :: a2 :: a3 :: a4 :: a5 :: a6 :: a7 :: a8 :: a9 :: a10 :: z :: r) (.ref v :: st) := fun H ls locs hP hD hS hL => lv_astore C.exec C.bytes hd (ax_has hL) (by simp only [List.length_cons]; omega) rfl (fun ls1 h1 => kk H ls1 locs hP hD hS (ax_Lset (by simp only [List.length_cons]; omega) (fun w hw _ => ax_okw hp (Option.some.inj hw)) h1))
theorem ax_iinc_11 (C : ax_C x Y i h mc ms) {a0 a1 a2 a3 a4 a5 a6 a7 a8 a9 a10 : Option Value} {v : Int32} {r : List (Option Value)} {d : Int} (hd : decode i.2.1 pc = .ok (.iinc 11 d, 3)) (w : Int32) (hw : Int32.ofInt d = w) (hp : ax_ok a10 = true) (kk : ax_V x Y ad kc ks Q N g (pc + 3) (a0 :: a1 :: a2 :: a3 :: a4 :: a5 :: a6 :: a7 :: a8 :: a9 :: a10 :: some (.int (v + w)) :: r) (st)) : ax_V x Y ad kc ks Q N g pc (a0 :: a1 :: a2 :: a3 :: a4 :: a5 :: a6 :: a7 :: a8 :: a9 :: a10 :: some (.int v) :: r) (st) := fun H ls locs hP hD hS hL => lv_iinc (lv := (11, .int v) :: ax_as (a0 :: a1 :: a2 :: a3 :: a4 :: a5 :: a6 :: a7 :: a8 :: a9 :: a10 :: some (.int v) :: r)) (k := 0) C.exec C.bytes hd ⟨hL.1, hL.2.1, fun q hq => by rcases List.mem_cons.mp hq with e | e; exact (by rw [e]; exact hL.2.2 11 (.int v) rfl); exact (ax_has hL).2.2 q e⟩ rfl (by rw [hw]) (by simp only [List.length_cons]; omega) rfl (fun ls1 h1 => kk H ls1 locs hP hD hS (ax_Lset (i := 11) (v := .int (v + w)) (by simp only [List.length_cons]; omega) (fun w hw _ => ax_okw hp (Option.some.inj hw)) (ax_hsub h1 (fun q hq => by rcases List.mem_cons.mp hq with e | e; exact (by rw [e]; exact List.mem_cons_self); exact List.mem_cons_of_mem _ (List.mem_filter.mpr ⟨List.mem_cons_of_mem _ (List.mem_filter.mp e).1, (List.mem_filter.mp e).2⟩)))))
theorem ax_iload_12 (C : ax_C x Y i h mc ms) {a0 a1 a2 a3 a4 a5 a6 a7 a8 a9 a10 a11 : Option Value} {v : Int32} {r : List (Option Value)} (hd : decode i.2.1 pc = .ok (.iload 12, 2)) (kk : ax_V x Y ad kc ks Q N g (pc + 2) (a0 :: a1 :: a2 :: a3 :: a4 :: a5 :: a6 :: a7 :: a8 :: a9 :: a10 :: a11 :: some (.int v) :: r) (.int v :: st)) : ax_V x Y ad kc ks Q N g pc (a0 :: a1 :: a2 :: a3 :: a4 :: a5 :: a6 :: a7 :: a8 :: a9 :: a10 :: a11 :: some (.int v) :: r) (st) := fun H ls locs hP hD hS hL => lv_iload C.exec C.bytes hd (hL.2.2 12 (.int v) rfl) (kk H ls locs hP hD hS hL)
theorem ax_istore_12 (C : ax_C x Y i h mc ms) {a0 a1 a2 a3 a4 a5 a6 a7 a8 a9 a10 a11 : Option Value} {z : Option Value} {v : Int32} {r : List (Option Value)} (hd : decode i.2.1 pc = .ok (.istore 12, 2)) (hp : ax_ok a11 = true) (kk : ax_V x Y ad kc ks Q N g (pc + 2) (a0 :: a1 :: a2 :: a3 :: a4 :: a5 :: a6 :: a7 :: a8 :: a9 :: a10 :: a11 :: some (.int v) :: r) (st)) : ax_V x Y ad kc ks Q N g pc (a0 :: a1 :: a2 :: a3 :: a4 :: a5 :: a6 :: a7 :: a8 :: a9 :: a10 :: a11 :: z :: r) (.int v :: st) := fun H ls locs hP hD hS hL => lv_istore C.exec C.bytes hd (ax_has hL) (by simp only [List.length_cons]; omega) rfl (fun ls1 h1 => kk H ls1 locs hP hD hS (ax_Lset (by simp only [List.length_cons]; omega) (fun w hw _ => ax_okw hp (Option.some.inj hw)) h1))
theorem ax_lload_12 (C : ax_C x Y i h mc ms) {a0 a1 a2 a3 a4 a5 a6 a7 a8 a9 a10 a11 : Option Value} {v : Int64} {r : List (Option Value)} (hd : decode i.2.1 pc = .ok (.lload 12, 2)) (kk : ax_V x Y ad kc ks Q N g (pc + 2) (a0 :: a1 :: a2 :: a3 :: a4 :: a5 :: a6 :: a7 :: a8 :: a9 :: a10 :: a11 :: some (.long v) :: r) (.long v :: st)) : ax_V x Y ad kc ks Q N g pc (a0 :: a1 :: a2 :: a3 :: a4 :: a5 :: a6 :: a7 :: a8 :: a9 :: a10 :: a11 :: some (.long v) :: r) (st) := fun H ls locs hP hD hS hL => lv_lload C.exec C.bytes hd (hL.2.2 12 (.long v) rfl) (kk H ls locs hP hD hS hL)
theorem ax_lstore_12 (C : ax_C x Y i h mc ms) {a0 a1 a2 a3 a4 a5 a6 a7 a8 a9 a10 a11 : Option Value} {z z2 : Option Value} {v : Int64} {r : List (Option Value)} (hd : decode i.2.1 pc = .ok (.lstore 12, 2)) (hp : ax_ok a11 = true) (kk : ax_V x Y ad kc ks Q N g (pc + 2) (a0 :: a1 :: a2 :: a3 :: a4 :: a5 :: a6 :: a7 :: a8 :: a9 :: a10 :: a11 :: some (.long v) :: none :: r) (st)) : ax_V x Y ad kc ks Q N g pc (a0 :: a1 :: a2 :: a3 :: a4 :: a5 :: a6 :: a7 :: a8 :: a9 :: a10 :: a11 :: z :: z2 :: r) (.long v :: st) := fun H ls locs hP hD hS hL => lv_lstore C.exec C.bytes hd (ax_has hL) (by simp only [List.length_cons]; omega) rfl (fun ls1 h1 => kk H ls1 locs hP hD hS (ax_Lset2 (by simp only [List.length_cons]; omega) (fun w hw _ => ax_okw hp (Option.some.inj hw)) h1))
theorem ax_aload_12 (C : ax_C x Y i h mc ms) {a0 a1 a2 a3 a4 a5 a6 a7 a8 a9 a10 a11 : Option Value} {v : Nat} {r : List (Option Value)} (hd : decode i.2.1 pc = .ok (.aload 12, 2)) (kk : ax_V x Y ad kc ks Q N g (pc + 2) (a0 :: a1 :: a2 :: a3 :: a4 :: a5 :: a6 :: a7 :: a8 :: a9 :: a10 :: a11 :: some (.ref v) :: r) (.ref v :: st)) : ax_V x Y ad kc ks Q N g pc (a0 :: a1 :: a2 :: a3 :: a4 :: a5 :: a6 :: a7 :: a8 :: a9 :: a10 :: a11 :: some (.ref v) :: r) (st) := fun H ls locs hP hD hS hL => lv_aload C.exec C.bytes hd (hL.2.2 12 (.ref v) rfl) (kk H ls locs hP hD hS hL)
theorem ax_astore_12 (C : ax_C x Y i h mc ms) {a0 a1 a2 a3 a4 a5 a6 a7 a8 a9 a10 a11 : Option Value} {z : Option Value} {v : Nat} {r : List (Option Value)} (hd : decode i.2.1 pc = .ok (.astore 12, 2)) (hp : ax_ok a11 = true) (kk : ax_V x Y ad kc ks Q N g (pc + 2) (a0 :: a1 :: a2 :: a3 :: a4 :: a5 :: a6 :: a7 :: a8 :: a9 :: a10 :: a11 :: some (.ref v) :: r) (st)) : ax_V x Y ad kc ks Q N g pc (a0 :: a1 :: a2 :: a3 :: a4 :: a5 :: a6 :: a7 :: a8 :: a9 :: a10 :: a11 :: z :: r) (.ref v :: st) := fun H ls locs hP hD hS hL => lv_astore C.exec C.bytes hd (ax_has hL) (by simp only [List.length_cons]; omega) rfl (fun ls1 h1 => kk H ls1 locs hP hD hS (ax_Lset (by simp only [List.length_cons]; omega) (fun w hw _ => ax_okw hp (Option.some.inj hw)) h1))
theorem ax_iinc_12 (C : ax_C x Y i h mc ms) {a0 a1 a2 a3 a4 a5 a6 a7 a8 a9 a10 a11 : Option Value} {v : Int32} {r : List (Option Value)} {d : Int} (hd : decode i.2.1 pc = .ok (.iinc 12 d, 3)) (w : Int32) (hw : Int32.ofInt d = w) (hp : ax_ok a11 = true) (kk : ax_V x Y ad kc ks Q N g (pc + 3) (a0 :: a1 :: a2 :: a3 :: a4 :: a5 :: a6 :: a7 :: a8 :: a9 :: a10 :: a11 :: some (.int (v + w)) :: r) (st)) : ax_V x Y ad kc ks Q N g pc (a0 :: a1 :: a2 :: a3 :: a4 :: a5 :: a6 :: a7 :: a8 :: a9 :: a10 :: a11 :: some (.int v) :: r) (st) := fun H ls locs hP hD hS hL => lv_iinc (lv := (12, .int v) :: ax_as (a0 :: a1 :: a2 :: a3 :: a4 :: a5 :: a6 :: a7 :: a8 :: a9 :: a10 :: a11 :: some (.int v) :: r)) (k := 0) C.exec C.bytes hd ⟨hL.1, hL.2.1, fun q hq => by rcases List.mem_cons.mp hq with e | e; exact (by rw [e]; exact hL.2.2 12 (.int v) rfl); exact (ax_has hL).2.2 q e⟩ rfl (by rw [hw]) (by simp only [List.length_cons]; omega) rfl (fun ls1 h1 => kk H ls1 locs hP hD hS (ax_Lset (i := 12) (v := .int (v + w)) (by simp only [List.length_cons]; omega) (fun w hw _ => ax_okw hp (Option.some.inj hw)) (ax_hsub h1 (fun q hq => by rcases List.mem_cons.mp hq with e | e; exact (by rw [e]; exact List.mem_cons_self); exact List.mem_cons_of_mem _ (List.mem_filter.mpr ⟨List.mem_cons_of_mem _ (List.mem_filter.mp e).1, (List.mem_filter.mp e).2⟩)))))
theorem ax_iload_13 (C : ax_C x Y i h mc ms) {a0 a1 a2 a3 a4 a5 a6 a7 a8 a9 a10 a11 a12 : Option Value} {v : Int32} {r : List (Option Value)} (hd : decode i.2.1 pc = .ok (.iload 13, 2)) (kk : ax_V x Y ad kc ks Q N g (pc + 2) (a0 :: a1 :: a2 :: a3 :: a4 :: a5 :: a6 :: a7 :: a8 :: a9 :: a10 :: a11 :: a12 :: some (.int v) :: r) (.int v :: st)) : ax_V x Y ad kc ks Q N g pc (a0 :: a1 :: a2 :: a3 :: a4 :: a5 :: a6 :: a7 :: a8 :: a9 :: a10 :: a11 :: a12 :: some (.int v) :: r) (st) := fun H ls locs hP hD hS hL => lv_iload C.exec C.bytes hd (hL.2.2 13 (.int v) rfl) (kk H ls locs hP hD hS hL)
theorem ax_istore_13 (C : ax_C x Y i h mc ms) {a0 a1 a2 a3 a4 a5 a6 a7 a8 a9 a10 a11 a12 : Option Value} {z : Option Value} {v : Int32} {r : List (Option Value)} (hd : decode i.2.1 pc = .ok (.istore 13, 2)) (hp : ax_ok a12 = true) (kk : ax_V x Y ad kc ks Q N g (pc + 2) (a0 :: a1 :: a2 :: a3 :: a4 :: a5 :: a6 :: a7 :: a8 :: a9 :: a10 :: a11 :: a12 :: some (.int v) :: r) (st)) : ax_V x Y ad kc ks Q N g pc (a0 :: a1 :: a2 :: a3 :: a4 :: a5 :: a6 :: a7 :: a8 :: a9 :: a10 :: a11 :: a12 :: z :: r) (.int v :: st) := fun H ls locs hP hD hS hL => lv_istore C.exec C.bytes hd (ax_has hL) (by simp only [List.length_cons]; omega) rfl (fun ls1 h1 => kk H ls1 locs hP hD hS (ax_Lset (by simp only [List.length_cons]; omega) (fun w hw _ => ax_okw hp (Option.some.inj hw)) h1))
theorem ax_lload_13 (C : ax_C x Y i h mc ms) {a0 a1 a2 a3 a4 a5 a6 a7 a8 a9 a10 a11 a12 : Option Value} {v : Int64} {r : List (Option Value)} (hd : decode i.2.1 pc = .ok (.lload 13, 2)) (kk : ax_V x Y ad kc ks Q N g (pc + 2) (a0 :: a1 :: a2 :: a3 :: a4 :: a5 :: a6 :: a7 :: a8 :: a9 :: a10 :: a11 :: a12 :: some (.long v) :: r) (.long v :: st)) : ax_V x Y ad kc ks Q N g pc (a0 :: a1 :: a2 :: a3 :: a4 :: a5 :: a6 :: a7 :: a8 :: a9 :: a10 :: a11 :: a12 :: some (.long v) :: r) (st) := fun H ls locs hP hD hS hL => lv_lload C.exec C.bytes hd (hL.2.2 13 (.long v) rfl) (kk H ls locs hP hD hS hL)
theorem ax_lstore_13 (C : ax_C x Y i h mc ms) {a0 a1 a2 a3 a4 a5 a6 a7 a8 a9 a10 a11 a12 : Option Value} {z z2 : Option Value} {v : Int64} {r : List (Option Value)} (hd : decode i.2.1 pc = .ok (.lstore 13, 2)) (hp : ax_ok a12 = true) (kk : ax_V x Y ad kc ks Q N g (pc + 2) (a0 :: a1 :: a2 :: a3 :: a4 :: a5 :: a6 :: a7 :: a8 :: a9 :: a10 :: a11 :: a12 :: some (.long v) :: none :: r) (st)) : ax_V x Y ad kc ks Q N g pc (a0 :: a1 :: a2 :: a3 :: a4 :: a5 :: a6 :: a7 :: a8 :: a9 :: a10 :: a11 :: a12 :: z :: z2 :: r) (.long v :: st) := fun H ls locs hP hD hS hL => lv_lstore C.exec C.bytes hd (ax_has hL) (by simp only [List.length_cons]; omega) rfl (fun ls1 h1 => kk H ls1 locs hP hD hS (ax_Lset2 (by simp only [List.length_cons]; omega) (fun w hw _ => ax_okw hp (Option.some.inj hw)) h1))
theorem ax_aload_13 (C : ax_C x Y i h mc ms) {a0 a1 a2 a3 a4 a5 a6 a7 a8 a9 a10 a11 a12 : Option Value} {v : Nat} {r : List (Option Value)} (hd : decode i.2.1 pc = .ok (.aload 13, 2)) (kk : ax_V x Y ad kc ks Q N g (pc + 2) (a0 :: a1 :: a2 :: a3 :: a4 :: a5 :: a6 :: a7 :: a8 :: a9 :: a10 :: a11 :: a12 :: some (.ref v) :: r) (.ref v :: st)) : ax_V x Y ad kc ks Q N g pc (a0 :: a1 :: a2 :: a3 :: a4 :: a5 :: a6 :: a7 :: a8 :: a9 :: a10 :: a11 :: a12 :: some (.ref v) :: r) (st) := fun H ls locs hP hD hS hL => lv_aload C.exec C.bytes hd (hL.2.2 13 (.ref v) rfl) (kk H ls locs hP hD hS hL)
theorem ax_astore_13 (C : ax_C x Y i h mc ms) {a0 a1 a2 a3 a4 a5 a6 a7 a8 a9 a10 a11 a12 : Option Value} {z : Option Value} {v : Nat} {r : List (Option Value)} (hd : decode i.2.1 pc = .ok (.astore 13, 2)) (hp : ax_ok a12 = true) (kk : ax_V x Y ad kc ks Q N g (pc + 2) (a0 :: a1 :: a2 :: a3 :: a4 :: a5 :: a6 :: a7 :: a8 :: a9 :: a10 :: a11 :: a12 :: some (.ref v) :: r) (st)) : ax_V x Y ad kc ks Q N g pc (a0 :: a1 :: a2 :: a3 :: a4 :: a5 :: a6 :: a7 :: a8 :: a9 :: a10 :: a11 :: a12 :: z :: r) (.ref v :: st) := fun H ls locs hP hD hS hL => lv_astore C.exec C.bytes hd (ax_has hL) (by simp only [List.length_cons]; omega) rfl (fun ls1 h1 => kk H ls1 locs hP hD hS (ax_Lset (by simp only [List.length_cons]; omega) (fun w hw _ => ax_okw hp (Option.some.inj hw)) h1))
theorem ax_iinc_13 (C : ax_C x Y i h mc ms) {a0 a1 a2 a3 a4 a5 a6 a7 a8 a9 a10 a11 a12 : Option Value} {v : Int32} {r : List (Option Value)} {d : Int} (hd : decode i.2.1 pc = .ok (.iinc 13 d, 3)) (w : Int32) (hw : Int32.ofInt d = w) (hp : ax_ok a12 = true) (kk : ax_V x Y ad kc ks Q N g (pc + 3) (a0 :: a1 :: a2 :: a3 :: a4 :: a5 :: a6 :: a7 :: a8 :: a9 :: a10 :: a11 :: a12 :: some (.int (v + w)) :: r) (st)) : ax_V x Y ad kc ks Q N g pc (a0 :: a1 :: a2 :: a3 :: a4 :: a5 :: a6 :: a7 :: a8 :: a9 :: a10 :: a11 :: a12 :: some (.int v) :: r) (st) := fun H ls locs hP hD hS hL => lv_iinc (lv := (13, .int v) :: ax_as (a0 :: a1 :: a2 :: a3 :: a4 :: a5 :: a6 :: a7 :: a8 :: a9 :: a10 :: a11 :: a12 :: some (.int v) :: r)) (k := 0) C.exec C.bytes hd ⟨hL.1, hL.2.1, fun q hq => by rcases List.mem_cons.mp hq with e | e; exact (by rw [e]; exact hL.2.2 13 (.int v) rfl); exact (ax_has hL).2.2 q e⟩ rfl (by rw [hw]) (by simp only [List.length_cons]; omega) rfl (fun ls1 h1 => kk H ls1 locs hP hD hS (ax_Lset (i := 13) (v := .int (v + w)) (by simp only [List.length_cons]; omega) (fun w hw _ => ax_okw hp (Option.some.inj hw)) (ax_hsub h1 (fun q hq => by rcases List.mem_cons.mp hq with e | e; exact (by rw [e]; exact List.mem_cons_self); exact List.mem_cons_of_mem _ (List.mem_filter.mpr ⟨List.mem_cons_of_mem _ (List.mem_filter.mp e).1, (List.mem_filter.mp e).2⟩)))))
theorem ax_iload_14 (C : ax_C x Y i h mc ms) {a0 a1 a2 a3 a4 a5 a6 a7 a8 a9 a10 a11 a12 a13 : Option Value} {v : Int32} {r : List (Option Value)} (hd : decode i.2.1 pc = .ok (.iload 14, 2)) (kk : ax_V x Y ad kc ks Q N g (pc + 2) (a0 :: a1 :: a2 :: a3 :: a4 :: a5 :: a6 :: a7 :: a8 :: a9 :: a10 :: a11 :: a12 :: a13 :: some (.int v) :: r) (.int v :: st)) : ax_V x Y ad kc ks Q N g pc (a0 :: a1 :: a2 :: a3 :: a4 :: a5 :: a6 :: a7 :: a8 :: a9 :: a10 :: a11 :: a12 :: a13 :: some (.int v) :: r) (st) := fun H ls locs hP hD hS hL => lv_iload C.exec C.bytes hd (hL.2.2 14 (.int v) rfl) (kk H ls locs hP hD hS hL)
theorem ax_istore_14 (C : ax_C x Y i h mc ms) {a0 a1 a2 a3 a4 a5 a6 a7 a8 a9 a10 a11 a12 a13 : Option Value} {z : Option Value} {v : Int32} {r : List (Option Value)} (hd : decode i.2.1 pc = .ok (.istore 14, 2)) (hp : ax_ok a13 = true) (kk : ax_V x Y ad kc ks Q N g (pc + 2) (a0 :: a1 :: a2 :: a3 :: a4 :: a5 :: a6 :: a7 :: a8 :: a9 :: a10 :: a11 :: a12 :: a13 :: some (.int v) :: r) (st)) : ax_V x Y ad kc ks Q N g pc (a0 :: a1 :: a2 :: a3 :: a4 :: a5 :: a6 :: a7 :: a8 :: a9 :: a10 :: a11 :: a12 :: a13 :: z :: r) (.int v :: st) := fun H ls locs hP hD hS hL => lv_istore C.exec C.bytes hd (ax_has hL) (by simp only [List.length_cons]; omega) rfl (fun ls1 h1 => kk H ls1 locs hP hD hS (ax_Lset (by simp only [List.length_cons]; omega) (fun w hw _ => ax_okw hp (Option.some.inj hw)) h1))
theorem ax_lload_14 (C : ax_C x Y i h mc ms) {a0 a1 a2 a3 a4 a5 a6 a7 a8 a9 a10 a11 a12 a13 : Option Value} {v : Int64} {r : List (Option Value)} (hd : decode i.2.1 pc = .ok (.lload 14, 2)) (kk : ax_V x Y ad kc ks Q N g (pc + 2) (a0 :: a1 :: a2 :: a3 :: a4 :: a5 :: a6 :: a7 :: a8 :: a9 :: a10 :: a11 :: a12 :: a13 :: some (.long v) :: r) (.long v :: st)) : ax_V x Y ad kc ks Q N g pc (a0 :: a1 :: a2 :: a3 :: a4 :: a5 :: a6 :: a7 :: a8 :: a9 :: a10 :: a11 :: a12 :: a13 :: some (.long v) :: r) (st) := fun H ls locs hP hD hS hL => lv_lload C.exec C.bytes hd (hL.2.2 14 (.long v) rfl) (kk H ls locs hP hD hS hL)
theorem ax_lstore_14 (C : ax_C x Y i h mc ms) {a0 a1 a2 a3 a4 a5 a6 a7 a8 a9 a10 a11 a12 a13 : Option Value} {z z2 : Option Value} {v : Int64} {r : List (Option Value)} (hd : decode i.2.1 pc = .ok (.lstore 14, 2)) (hp : ax_ok a13 = true) (kk : ax_V x Y ad kc ks Q N g (pc + 2) (a0 :: a1 :: a2 :: a3 :: a4 :: a5 :: a6 :: a7 :: a8 :: a9 :: a10 :: a11 :: a12 :: a13 :: some (.long v) :: none :: r) (st)) : ax_V x Y ad kc ks Q N g pc (a0 :: a1 :: a2 :: a3 :: a4 :: a5 :: a6 :: a7 :: a8 :: a9 :: a10 :: a11 :: a12 :: a13 :: z :: z2 :: r) (.long v :: st) := fun H ls locs hP hD hS hL => lv_lstore C.exec C.bytes hd (ax_has hL) (by simp only [List.length_cons]; omega) rfl (fun ls1 h1 => kk H ls1 locs hP hD hS (ax_Lset2 (by simp only [List.length_cons]; omega) (fun w hw _ => ax_okw hp (Option.some.inj hw)) h1))
theorem ax_aload_14 (C : ax_C x Y i h mc ms) {a0 a1 a2 a3 a4 a5 a6 a7 a8 a9 a10 a11 a12 a13 : Option Value} {v : Nat} {r : List (Option Value)} (hd : decode i.2.1 pc = .ok (.aload 14, 2)) (kk : ax_V x Y ad kc ks Q N g (pc + 2) (a0 :: a1 :: a2 :: a3 :: a4 :: a5 :: a6 :: a7 :: a8 :: a9 :: a10 :: a11 :: a12 :: a13 :: some (.ref v) :: r) (.ref v :: st)) : ax_V x Y ad kc ks Q N g pc (a0 :: a1 :: a2 :: a3 :: a4 :: a5 :: a6 :: a7 :: a8 :: a9 :: a10 :: a11 :: a12 :: a13 :: some (.ref v) :: r) (st) := fun H ls locs hP hD hS hL => lv_aload C.exec C.bytes hd (hL.2.2 14 (.ref v) rfl) (kk H ls locs hP hD hS hL)
theorem ax_astore_14 (C : ax_C x Y i h mc ms) {a0 a1 a2 a3 a4 a5 a6 a7 a8 a9 a10 a11 a12 a13 : Option Value} {z : Option Value} {v : Nat} {r : List (Option Value)} (hd : decode i.2.1 pc = .ok (.astore 14, 2)) (hp : ax_ok a13 = true) (kk : ax_V x Y ad kc ks Q N g (pc + 2) (a0 :: a1 :: a2 :: a3 :: a4 :: a5 :: a6 :: a7 :: a8 :: a9 :: a10 :: a11 :: a12 :: a13 :: some (.ref v) :: r) (st)) : ax_V x Y ad kc ks Q N g pc (a0 :: a1 :: a2 :: a3 :: a4 :: a5 :: a6 :: a7 :: a8 :: a9 :: a10 :: a11 :: a12 :: a13 :: z :: r) (.ref v :: st) := fun H ls locs hP hD hS hL => lv_astore C.exec C.bytes hd (ax_has hL) (by simp only [List.length_cons]; omega) rfl (fun ls1 h1 => kk H ls1 locs hP hD hS (ax_Lset (by simp only [List.length_cons]; omega) (fun w hw _ => ax_okw hp (Option.some.inj hw)) h1))
theorem ax_iinc_14 (C : ax_C x Y i h mc ms) {a0 a1 a2 a3 a4 a5 a6 a7 a8 a9 a10 a11 a12 a13 : Option Value} {v : Int32} {r : List (Option Value)} {d : Int} (hd : decode i.2.1 pc = .ok (.iinc 14 d, 3)) (w : Int32) (hw : Int32.ofInt d = w) (hp : ax_ok a13 = true) (kk : ax_V x Y ad kc ks Q N g (pc + 3) (a0 :: a1 :: a2 :: a3 :: a4 :: a5 :: a6 :: a7 :: a8 :: a9 :: a10 :: a11 :: a12 :: a13 :: some (.int (v + w)) :: r) (st)) : ax_V x Y ad kc ks Q N g pc (a0 :: a1 :: a2 :: a3 :: a4 :: a5 :: a6 :: a7 :: a8 :: a9 :: a10 :: a11 :: a12 :: a13 :: some (.int v) :: r) (st) := fun H ls locs hP hD hS hL => lv_iinc (lv := (14, .int v) :: ax_as (a0 :: a1 :: a2 :: a3 :: a4 :: a5 :: a6 :: a7 :: a8 :: a9 :: a10 :: a11 :: a12 :: a13 :: some (.int v) :: r)) (k := 0) C.exec C.bytes hd ⟨hL.1, hL.2.1, fun q hq => by rcases List.mem_cons.mp hq with e | e; exact (by rw [e]; exact hL.2.2 14 (.int v) rfl); exact (ax_has hL).2.2 q e⟩ rfl (by rw [hw]) (by simp only [List.length_cons]; omega) rfl (fun ls1 h1 => kk H ls1 locs hP hD hS (ax_Lset (i := 14) (v := .int (v + w)) (by simp only [List.length_cons]; omega) (fun w hw _ => ax_okw hp (Option.some.inj hw)) (ax_hsub h1 (fun q hq => by rcases List.mem_cons.mp hq with e | e; exact (by rw [e]; exact List.mem_cons_self); exact List.mem_cons_of_mem _ (List.mem_filter.mpr ⟨List.mem_cons_of_mem _ (List.mem_filter.mp e).1, (List.mem_filter.mp e).2⟩)))))
theorem ax_iload_15 (C : ax_C x Y i h mc ms) {a0 a1 a2 a3 a4 a5 a6 a7 a8 a9 a10 a11 a12 a13 a14 : Option Value} {v : Int32} {r : List (Option Value)} (hd : decode i.2.1 pc = .ok (.iload 15, 2)) (kk : ax_V x Y ad kc ks Q N g (pc + 2) (a0 :: a1 :: a2 :: a3 :: a4 :: a5 :: a6 :: a7 :: a8 :: a9 :: a10 :: a11 :: a12 :: a13 :: a14 :: some (.int v) :: r) (.int v :: st)) : ax_V x Y ad kc ks Q N g pc (a0 :: a1 :: a2 :: a3 :: a4 :: a5 :: a6 :: a7 :: a8 :: a9 :: a10 :: a11 :: a12 :: a13 :: a14 :: some (.int v) :: r) (st) := fun H ls locs hP hD hS hL => lv_iload C.exec C.bytes hd (hL.2.2 15 (.int v) rfl) (kk H ls locs hP hD hS hL)
theorem ax_istore_15 (C : ax_C x Y i h mc ms) {a0 a1 a2 a3 a4 a5 a6 a7 a8 a9 a10 a11 a12 a13 a14 : Option Value} {z : Option Value} {v : Int32} {r : List (Option Value)} (hd : decode i.2.1 pc = .ok (.istore 15, 2)) (hp : ax_ok a14 = true) (kk : ax_V x Y ad kc ks Q N g (pc + 2) (a0 :: a1 :: a2 :: a3 :: a4 :: a5 :: a6 :: a7 :: a8 :: a9 :: a10 :: a11 :: a12 :: a13 :: a14 :: some (.int v) :: r) (st)) : ax_V x Y ad kc ks Q N g pc (a0 :: a1 :: a2 :: a3 :: a4 :: a5 :: a6 :: a7 :: a8 :: a9 :: a10 :: a11 :: a12 :: a13 :: a14 :: z :: r) (.int v :: st) := fun H ls locs hP hD hS hL => lv_istore C.exec C.bytes hd (ax_has hL) (by simp only [List.length_cons]; omega) rfl (fun ls1 h1 => kk H ls1 locs hP hD hS (ax_Lset (by simp only [List.length_cons]; omega) (fun w hw _ => ax_okw hp (Option.some.inj hw)) h1))
theorem ax_lload_15 (C : ax_C x Y i h mc ms) {a0 a1 a2 a3 a4 a5 a6 a7 a8 a9 a10 a11 a12 a13 a14 : Option Value} {v : Int64} {r : List (Option Value)} (hd : decode i.2.1 pc = .ok (.lload 15, 2)) (kk : ax_V x Y ad kc ks Q N g (pc + 2) (a0 :: a1 :: a2 :: a3 :: a4 :: a5 :: a6 :: a7 :: a8 :: a9 :: a10 :: a11 :: a12 :: a13 :: a14 :: some (.long v) :: r) (.long v :: st)) : ax_V x Y ad kc ks Q N g pc (a0 :: a1 :: a2 :: a3 :: a4 :: a5 :: a6 :: a7 :: a8 :: a9 :: a10 :: a11 :: a12 :: a13 :: a14 :: some (.long v) :: r) (st) := fun H ls locs hP hD hS hL => lv_lload C.exec C.bytes hd (hL.2.2 15 (.long v) rfl) (kk H ls locs hP hD hS hL)
theorem ax_lstore_15 (C : ax_C x Y i h mc ms) {a0 a1 a2 a3 a4 a5 a6 a7 a8 a9 a10 a11 a12 a13 a14 : Option Value} {z z2 : Option Value} {v : Int64} {r : List (Option Value)} (hd : decode i.2.1 pc = .ok (.lstore 15, 2)) (hp : ax_ok a14 = true) (kk : ax_V x Y ad kc ks Q N g (pc + 2) (a0 :: a1 :: a2 :: a3 :: a4 :: a5 :: a6 :: a7 :: a8 :: a9 :: a10 :: a11 :: a12 :: a13 :: a14 :: some (.long v) :: none :: r) (st)) : ax_V x Y ad kc ks Q N g pc (a0 :: a1 :: a2 :: a3 :: a4 :: a5 :: a6 :: a7 :: a8 :: a9 :: a10 :: a11 :: a12 :: a13 :: a14 :: z :: z2 :: r) (.long v :: st) := fun H ls locs hP hD hS hL => lv_lstore C.exec C.bytes hd (ax_has hL) (by simp only [List.length_cons]; omega) rfl (fun ls1 h1 => kk H ls1 locs hP hD hS (ax_Lset2 (by simp only [List.length_cons]; omega) (fun w hw _ => ax_okw hp (Option.some.inj hw)) h1))
theorem ax_aload_15 (C : ax_C x Y i h mc ms) {a0 a1 a2 a3 a4 a5 a6 a7 a8 a9 a10 a11 a12 a13 a14 : Option Value} {v : Nat} {r : List (Option Value)} (hd : decode i.2.1 pc = .ok (.aload 15, 2)) (kk : ax_V x Y ad kc ks Q N g (pc + 2) (a0 :: a1 :: a2 :: a3 :: a4 :: a5 :: a6 :: a7 :: a8 :: a9 :: a10 :: a11 :: a12 :: a13 :: a14 :: some (.ref v) :: r) (.ref v :: st)) : ax_V x Y ad kc ks Q N g pc (a0 :: a1 :: a2 :: a3 :: a4 :: a5 :: a6 :: a7 :: a8 :: a9 :: a10 :: a11 :: a12 :: a13 :: a14 :: some (.ref v) :: r) (st) := fun H ls locs hP hD hS hL => lv_aload C.exec C.bytes hd (hL.2.2 15 (.ref v) rfl) (kk H ls locs hP hD hS hL)
theorem ax_astore_15 (C : ax_C x Y i h mc ms) {a0 a1 a2 a3 a4 a5 a6 a7 a8 a9 a10 a11 a12 a13 a14 : Option Value} {z : Option Value} {v : Nat} {r : List (Option Value)} (hd : decode i.2.1 pc = .ok (.astore 15, 2)) (hp : ax_ok a14 = true) (kk : ax_V x Y ad kc ks Q N g (pc + 2) (a0 :: a1 :: a2 :: a3 :: a4 :: a5 :: a6 :: a7 :: a8 :: a9 :: a10 :: a11 :: a12 :: a13 :: a14 :: some (.ref v) :: r) (st)) : ax_V x Y ad kc ks Q N g pc (a0 :: a1 :: a2 :: a3 :: a4 :: a5 :: a6 :: a7 :: a8 :: a9 :: a10 :: a11 :: a12 :: a13 :: a14 :: z :: r) (.ref v :: st) := fun H ls locs hP hD hS hL => lv_astore C.exec C.bytes hd (ax_has hL) (by simp only [List.length_cons]; omega) rfl (fun ls1 h1 => kk H ls1 locs hP hD hS (ax_Lset (by simp only [List.length_cons]; omega) (fun w hw _ => ax_okw hp (Option.some.inj hw)) h1))
theorem ax_iinc_15 (C : ax_C x Y i h mc ms) {a0 a1 a2 a3 a4 a5 a6 a7 a8 a9 a10 a11 a12 a13 a14 : Option Value} {v : Int32} {r : List (Option Value)} {d : Int} (hd : decode i.2.1 pc = .ok (.iinc 15 d, 3)) (w : Int32) (hw : Int32.ofInt d = w) (hp : ax_ok a14 = true) (kk : ax_V x Y ad kc ks Q N g (pc + 3) (a0 :: a1 :: a2 :: a3 :: a4 :: a5 :: a6 :: a7 :: a8 :: a9 :: a10 :: a11 :: a12 :: a13 :: a14 :: some (.int (v + w)) :: r) (st)) : ax_V x Y ad kc ks Q N g pc (a0 :: a1 :: a2 :: a3 :: a4 :: a5 :: a6 :: a7 :: a8 :: a9 :: a10 :: a11 :: a12 :: a13 :: a14 :: some (.int v) :: r) (st) := fun H ls locs hP hD hS hL => lv_iinc (lv := (15, .int v) :: ax_as (a0 :: a1 :: a2 :: a3 :: a4 :: a5 :: a6 :: a7 :: a8 :: a9 :: a10 :: a11 :: a12 :: a13 :: a14 :: some (.int v) :: r)) (k := 0) C.exec C.bytes hd ⟨hL.1, hL.2.1, fun q hq => by rcases List.mem_cons.mp hq with e | e; exact (by rw [e]; exact hL.2.2 15 (.int v) rfl); exact (ax_has hL).2.2 q e⟩ rfl (by rw [hw]) (by simp only [List.length_cons]; omega) rfl (fun ls1 h1 => kk H ls1 locs hP hD hS (ax_Lset (i := 15) (v := .int (v + w)) (by simp only [List.length_cons]; omega) (fun w hw _ => ax_okw hp (Option.some.inj hw)) (ax_hsub h1 (fun q hq => by rcases List.mem_cons.mp hq with e | e; exact (by rw [e]; exact List.mem_cons_self); exact List.mem_cons_of_mem _ (List.mem_filter.mpr ⟨List.mem_cons_of_mem _ (List.mem_filter.mp e).1, (List.mem_filter.mp e).2⟩)))))
end AX
end
section
/-! CONTRACTS, CALLS, and the heap's rows -/
/-- the machine's start and end of a method -/
def ax_Pc (Y : ax_Y) (ad : Nat → Nat) (N : Nat) (g : Nat → va_E) (av : List Value) : Array Value → State → Prop := fun v U => v = av.toArray ∧ ax_Kx Y U ∧ va_P Y.1 vwCl (ax_hw ad N g) U.heap ∧ va_D (ax_A Y) (ax_hw ad N g)
def ax_Qc (Y : ax_Y) (ad : Nat → Nat) (r : Option Value) (N : Nat) (g : Nat → va_E) : Array Value → State → Outcome → State → Prop := fun _ _ o t => o = .returned r ∧ va_P Y.1 vwCl (ax_hw ad N g) t.heap ∧ va_S (ax_A Y) Y.2.2.heap t.heap []
def ax_M (Y : ax_Y) (ad : Nat → Nat) (l : Launch) (j : ax_I) (h mc ms N : Nat) (g : Nat → va_E) (av : List Value) (r : Option Value) (g' : Nat → va_E) : Prop :=
  ∀ rm : Room, h ≤ rm.frames → 64 * h ≤ rm.locals → rm.cells = mc → rm.slots = ms → Met l j.1 [.code j.1 j.2.1 j.2.2.1 j.2.2.2] rm (ax_Pc Y ad N g av) (ax_Qc Y ad r N g') mc ms (ax_A Y)
abbrev ax_Q (x : ax_T) (Y : ax_Y) (ad : Nat → Nat) (r : Option Value) (N : Nat) (g' : Nat → va_E) (mc ms : Nat) : State → Prop := MQ x.2.2.1 (ax_Qc Y ad r N g') x.2.1.2.2 x.2.1.1 mc ms (ax_A Y)
def ax_la : List Value → List (Option Value)
  | [] => []
  | v :: vs => if v.category = 2 then some v :: none :: ax_la vs else some v :: ax_la vs
def ax_Lav (n : Nat) (av : List Value) : List (Option Value) := ax_la av ++ List.replicate (n - (ax_la av).length) none
theorem ax_la_len (av : List Value) : (ax_la av).length = (lg_sl av).length := by
  induction av with
  | nil => rfl
  | cons v vs ih =>
    have e : lg_sl (v :: vs) = (if v.category = 2 then [.val v, .second] else [.val v]) ++ lg_sl vs := by simp [lg_sl]
    rw [e]
    unfold ax_la
    split <;> simp [ih] <;> omega
theorem ax_la_mem (av : List Value) : ∀ (o i : Nat) (v : Value), (ax_la av)[i]? = some (some v) → (o + i, v) ∈ lv_args o av := by
  induction av with
  | nil => intro o i v h; simp [ax_la] at h
  | cons w vs ih =>
    intro o i v h
    unfold ax_la at h
    unfold lv_args
    split at h
    · next hc =>
      rw [if_pos hc]
      match i, h with
      | 0, h => simp at h; subst h; exact List.mem_cons_self
      | 1, h => simp at h
      | n + 2, h =>
        have := ih (o + 2) n v (by simpa using h)
        rw [show o + (n + 2) = o + 2 + n by omega]
        exact List.mem_cons_of_mem _ this
    · next hc =>
      rw [if_neg hc]
      match i, h with
      | 0, h => simp at h; subst h; exact List.mem_cons_self
      | n + 1, h =>
        have := ih (o + 1) n v (by simpa using h)
        rw [show o + (n + 1) = o + 1 + n by omega]
        exact List.mem_cons_of_mem _ this
theorem ax_entry {n : Nat} {av : List Value} (hn : (lg_sl av).length ≤ n) : ax_L ((lg_sl av ++ List.replicate (n - (lg_sl av).length) Slot.unset).toArray) (ax_Lav n av) := by
  obtain ⟨h1, h2, h3⟩ := lv_entry av hn
  refine ⟨?_, h2, fun i v hv => ?_⟩
  · rw [h1]
    simp only [ax_Lav, List.length_append, List.length_replicate, ax_la_len]
    omega
  · have hm : (0 + i, v) ∈ lv_args 0 av := by
      refine ax_la_mem av 0 i v ?_
      unfold ax_Lav at hv
      by_cases hl : i < (ax_la av).length
      · rwa [List.getElem?_append_left hl] at hv
      · rw [List.getElem?_append_right (by omega)] at hv
        have := List.mem_of_getElem? hv
        simp at this
    rw [Nat.zero_add] at hm
    exact h3 (i, v) hm
/-- a method that can be called: its words -/
def ax_cal (j : ax_I) (n : Nat) : Prop := Cond.code j.1 j.2.1 j.2.2.1 j.2.2.2 ∈ ax_tb ∧ Cond.initialized j.1.cls ∈ ax_tb ∧ (j.1.cls ≠ "java/lang/invoke/MethodHandle" ∧ j.1.cls ≠ "java/lang/invoke/VarHandle") ∧ (parseMethodDescriptor j.1.desc).map (fun d => d.parameters.length) = some n ∧ j.2.2.1 ≤ 45 ∧ plainName j.1.cls = true
def ax_calS (j : ax_I) (n : Nat) : Prop := ax_cal j n ∧ Cond.static j.1 ∈ ax_tb
def ax_calV (j : ax_I) (n : Nat) : Prop := ax_cal j n ∧ Cond.instanceMethod j.1 ∈ ax_tb ∧ Cond.selects j.1.cls j.1 j.1 ∈ ax_tb
theorem ax_M.of {Y : ax_Y} {ad : Nat → Nat} {l : Launch} {j : ax_I} {h mc ms N n : Nat} {g g' : Nat → va_E} {av : List Value} {r : Option Value} (F : ax_F Y) (cal : ax_cal j n) (L0 : List (Option Value)) (hL0 : ax_Lav j.2.2.1 av = L0) (hlen : (lg_sl av).length ≤ j.2.2.1)
    (body : ∀ x : ax_T, ax_C x Y j h mc ms → ax_V x Y ad 0 0 (ax_Q x Y ad r N g' mc ms) N g 0 L0 []) : ax_M Y ad l j h mc ms N g av r g' := by
  intro rm r1 r2 r3 r4
  refine Met.ofW (cc := j.2.1) (maxL := j.2.2.1) (ret := j.2.2.2) cal.2.2.2.2.2 rfl ?_
  intro p e s m args below meth c s₁ B hml hv
  obtain ⟨rfl, hkx, hP, hD⟩ := hv
  rw [lg_entry_eq]
  obtain ⟨b, f1, f2, f3⟩ := id F
  refine body ((p, l, e, rm), (s, m, av.toArray), (below, meth, c)) ⟨B.exec, B.bytes, hml, findClass_of_methodNamed B.named, ax_word F hkx.1 _, va_K.moved hkx.1.alike f2, B.returns, B.notSynchronized, ⟨r1, r2, r3, r4⟩, hkx, F, fun e => ?_⟩ s.heap _ [] hP hD hkx.2 (hL0 ▸ ax_entry hlen)
  exact (name_of_methodNamed B.named B.method).1.trans e
theorem ax_back {x : ax_T} {Y : ax_Y} {ad : Nat → Nat} {kc ks mc' ms' N pc : Nat} {Q : State → Prop} {g' : Nat → va_E} {H : Heap} {ls : Array Slot} {locs : List Loc} {st rest : List Value} {r : Option Value} {a : Array Value}
    (hr : va_Run x.1.1 x.1.2.1 x.1.2.2.1 x.1.2.2.2 x.2.1.1 x.2.1.2.1 x.2.1.2.2 x.2.2.1 x.2.2.2.1 x.2.2.2.2 H locs kc ks mc' ms' (F0 x.2.1.2.1 pc ls st) rest (ax_Qc Y ad r N g' a) (ax_A Y)) (hS : va_S (ax_A Y) Y.2.2.heap H locs)
    (kk : ∀ (H1 : Heap) (locs1 : List Loc), va_P Y.1 vwCl (ax_hw ad N g') H1 → va_S (ax_A Y) Y.2.2.heap H1 locs1 → ax_W x H1 locs1 (kc + mc') (ks + ms') Q (F0 x.2.1.2.1 (pc + 3) ls (r.toList ++ rest))) : ax_W x H locs kc ks Q (F0 x.2.1.2.1 pc ls st) := by
  intro T hT X
  obtain ⟨v, st₀, t, T', Lc, h0, X', hL, e1, e2, ⟨hv, hP', hS'⟩, hg⟩ := hr T hT X
  cases hv
  obtain ⟨t2, a1, b1⟩ := kk T'.heap (locs ++ Lc) (by rw [e1]; exact hP') ⟨by rw [e1]; exact hS'.1, fun q h1 h2 => by rw [e1]; exact hS'.2.1 q h1 h2, fun q hq => by
      rcases List.mem_append.mp hq with h | h
      · exact hS.2.2 q h
      · exact hL q h⟩ T' rfl X'
  exact ⟨t2, hg t2 a1, b1⟩
section AXC
variable {x : ax_T} {Y : ax_Y} {ad : Nat → Nat} {i : ax_I} {h mc ms kc ks N pc : Nat} {Q : State → Prop} {g g' : Nat → va_E} {L : List (Option Value)} {st rest av : List Value} {j : ax_I} {h' mc' ms' idx n : Nat} {r : Option Value}
theorem ax_kx_at (C : ax_C x Y i h mc ms) {U : State} {H : Heap} {locs : List Loc} (hU : U.heap = H) (hW : x.2.1.1.WarmedH U.vm) (hS : va_S (ax_A Y) Y.2.2.heap H locs) : ax_Kx Y U :=
  ⟨State.WarmedH.trans C.kx.1 hW, by rw [hU]; exact ⟨hS.1, hS.2.1, fun _ h => by cases h⟩⟩
theorem ax_blind : FrameBlind (ax_Pc Y ad N g av) := fun _ _ _ _ q => q
theorem ax_calB (C : ax_C x Y i h mc ms) (cal : ax_cal j n) (lk : Cond.methodLink i.1.cls idx j.1 ∈ ax_tb) (hh : h' + 1 ≤ h) :
    CallB x.1.2.2.2 x.2.1.1 x.2.1.2.2 i.1.cls idx j.1 j.2.1 j.2.2.1 j.2.2.2 [.code j.1 j.2.1 j.2.2.1 j.2.2.2] { frames := h', cells := mc', slots := ms', locals := 64 * h' } mc' ms' n := by
  obtain ⟨c1, c2, c3, c4, c5, c6⟩ := cal
  obtain ⟨q1, q2, -, -⟩ := C.room
  refine ⟨rfl, rfl, Nat.le_trans hh q1, ?_, fun w hw a' U hW => ?_, List.mem_cons_self, C.hts _ c1, C.hts _ c2, c3, fun sig hs => ?_, C.hts _ lk⟩
  · show 8 + (j.2.2.1 + 11) + 64 * h' ≤ _
    omega
  · rw [List.mem_singleton.mp hw]
    exact ax_word C.F (State.WarmedH.trans C.kx.1 hW) a' _ c1
  · rw [hs] at c4
    exact (Option.some.inj c4).symm
theorem ax_callSg (C : ax_C x Y i h mc ms) (hM : ax_M Y ad x.1.2.1 j h' mc' ms' N g av r g') (cal : ax_calS j n) (lk : Cond.methodLink i.1.cls idx j.1 ∈ ax_tb) (hh : h' + 1 ≤ h) (hst : st = av.reverse ++ rest) (hn : av.length = n) (hw : (rest.map fun v => v.category).sum ≤ 8) (hnL : L.length = i.2.2.1) (hd : decode i.2.1 pc = .ok (.invokestatic idx, 3)) (hc : kc + mc' ≤ mc ∧ ks + ms' ≤ ms)
    (kk : ax_V x Y ad (kc + mc') (ks + ms') Q N g' (pc + 3) L (r.toList ++ rest)) : ax_V x Y ad kc ks Q N g pc L st := by
  intro H ls locs hP hD hS hL
  obtain ⟨-, -, q3, q4⟩ := C.room
  subst hst
  refine ax_back (va_runS (As := av) (rest := rest) (Ts := ax_tb) (nL := i.2.2.1) ⟨C.exec, C.bytes, C.maxL, C.own, C.hts⟩ (hM _ (Nat.le_refl _) (Nat.le_refl _) rfl rfl) ⟨ax_calB C cal.1 lk hh, C.hts _ cal.2⟩ ⟨ax_blind, fun U hU hW => ⟨rfl, ax_kx_at C hU hW hS, by rw [hU]; exact hP, hD⟩⟩ rfl hn (hL.1.trans hnL) rfl (lv_room hw) hd ⟨by rw [q3]; exact hc.1, by rw [q4]; exact hc.2⟩) hS (fun H1 locs1 hP1 hS1 => kk H1 ls locs1 hP1 (ax_D_any hD) hS1 hL)
theorem ax_callVg (C : ax_C x Y i h mc ms) {k : Nat} {fs : List Value} {ci : Nat} {q : vw_C} {avs : List Value} (hav : av = .ref (ad k) :: avs) (hk : k < N) (hg : g k = .inr (ci, fs)) (hq : vwCl[ci]? = some q) (hqc : q.1 = j.1.cls) (hM : ax_M Y ad x.1.2.1 j h' mc' ms' N g av r g') (cal : ax_calV j n) (lk : Cond.methodLink i.1.cls idx j.1 ∈ ax_tb) (hh : h' + 1 ≤ h) (hst : st = avs.reverse ++ .ref (ad k) :: rest) (hn : avs.length = n) (hw : (rest.map fun v => v.category).sum ≤ 8) (hnL : L.length = i.2.2.1) (hd : decode i.2.1 pc = .ok (.invokevirtual idx, 3)) (hc : kc + mc' ≤ mc ∧ ks + ms' ≤ ms)
    (kk : ax_V x Y ad (kc + mc') (ks + ms') Q N g' (pc + 3) L (r.toList ++ rest)) : ax_V x Y ad kc ks Q N g pc L st := by
  intro H ls locs hP hD hS hL
  obtain ⟨-, -, q3, q4⟩ := C.room
  subst hst; subst hav
  have he : (ax_hw ad N g)[k]? = some (ad k, .inr (ci, fs)) := by rw [ax_hw_get hk, hg]
  have hrc := va_recv C.hK hP hq he
  rw [hqc] at hrc
  refine ax_back (va_runV (As := avs) (rest := rest) (Ts := ax_tb) (nL := i.2.2.1) ⟨C.exec, C.bytes, C.maxL, C.own, C.hts⟩ (hM _ (Nat.le_refl _) (Nat.le_refl _) rfl rfl) ⟨ax_calB C cal.1 lk hh, C.hts _ cal.2.1, C.hts _ cal.2.2⟩ ⟨ax_blind, hrc, fun U hU hW => ⟨rfl, ax_kx_at C hU hW hS, by rw [hU]; exact hP, hD⟩⟩ rfl hn (hL.1.trans hnL) rfl (lv_room hw) hd ⟨by rw [q3]; exact hc.1, by rw [q4]; exact hc.2⟩) hS (fun H1 locs1 hP1 hS1 => kk H1 ls locs1 hP1 (ax_D_any hD) hS1 hL)
/-- a private static method of the nest's host -/
theorem ax_callNg (C : ax_C x Y i h mc ms) {host : String} (hM : ax_M Y ad x.1.2.1 j h' mc' ms' N g av r g') (cal : ax_calS j n) (lk : Cond.methodLinkNest i.1.cls idx j.1 host ∈ lw_tbl) (hh : h' + 1 ≤ h) (hst : st = av.reverse ++ rest) (hn : av.length = n) (hw : (rest.map fun v => v.category).sum ≤ 8) (hnL : L.length = i.2.2.1) (hd : decode i.2.1 pc = .ok (.invokestatic idx, 3)) (hc : kc + mc' ≤ mc ∧ ks + ms' ≤ ms)
    (kk : ax_V x Y ad (kc + mc') (ks + ms') Q N g' (pc + 3) L (r.toList ++ rest)) : ax_V x Y ad kc ks Q N g pc L st := by
  intro H ls locs hP hD hS hL
  obtain ⟨q1, q2, q3, q4⟩ := C.room
  subst hst
  obtain ⟨c1, c2, c3, c4, c5, c6⟩ := cal.1
  obtain ⟨b, f1, f2, f3⟩ := id C.F
  have hnw : (Cond.methodLinkNest i.1.cls idx j.1 host).before x.2.1.2.2 x.2.1.1 = true := va_Nw.use rfl (va_Nw.warmM C.kx.1 (va_Nw.of rfl (f1 _ lk)))
  refine ax_back (va_runSN (As := av) (rest := rest) (Ts := ax_tb) (nL := i.2.2.1) ⟨C.exec, C.bytes, C.maxL, C.own, C.hts⟩ (hM { frames := h', cells := mc', slots := ms', locals := 64 * h' } (Nat.le_refl _) (Nat.le_refl _) rfl rfl) ⟨⟨⟨rfl, rfl, Nat.le_trans hh q1, ?_, fun w hw a' U hW => ?_, List.mem_cons_self⟩, C.hts _ c1, C.hts _ c2, c3, fun sig hs => ?_, hnw⟩, C.hts _ cal.2, trivial⟩ ⟨ax_blind, fun U hU hW => ⟨rfl, ax_kx_at C hU hW hS, by rw [hU]; exact hP, hD⟩⟩ rfl hn (hL.1.trans hnL) rfl (lv_room hw) hd ⟨by rw [q3]; exact hc.1, by rw [q4]; exact hc.2⟩) hS (fun H1 locs1 hP1 hS1 => kk H1 ls locs1 hP1 (ax_D_any hD) hS1 hL)
  · show 8 + (j.2.2.1 + 11) + 64 * h' ≤ _
    omega
  · rw [List.mem_singleton.mp hw]
    exact ax_word C.F (State.WarmedH.trans C.kx.1 hW) a' _ c1
  · rw [hs] at c4
    exact (Option.some.inj c4).symm
/-! the ends -/
theorem ax_iret (C : ax_C x Y i h mc ms) {v : Int32} (hr : i.2.2.2 = some .int) (hd : decode i.2.1 pc = .ok (.ireturn, 1)) (e1 : r = some (.int v)) (e2 : g' = g) (e3 : kc = mc) (e4 : ks = ms) : ax_V x Y ad kc ks (ax_Q x Y ad r N g' mc ms) N g pc L [.int v] := by
  subst e1; subst e2; subst e3; subst e4
  exact fun H ls locs hP hD hS hL => W.iret C.exec C.bytes (C.ret.trans hr) (fun t ht hW => ⟨rfl, by rw [ht]; exact hP, by rw [ht]; exact ⟨hS.1, hS.2.1, fun _ h => by cases h⟩⟩) (fun q hq => hS.2.2 q hq) hd (hlocks := C.locks)
theorem ax_zret (C : ax_C x Y i h mc ms) {v : Int32} {ty : FieldType} (hr : i.2.2.2 = some ty) (hn : narrow ty (.int v) = .int v) (hd : decode i.2.1 pc = .ok (.ireturn, 1)) (e1 : r = some (.int v)) (e2 : g' = g) (e3 : kc = mc) (e4 : ks = ms) : ax_V x Y ad kc ks (ax_Q x Y ad r N g' mc ms) N g pc L [.int v] := by
  subst e1; subst e2; subst e3; subst e4
  exact fun H ls locs hP hD hS hL => W.zret C.exec C.bytes (C.ret.trans hr) hn (fun t ht hW => ⟨rfl, by rw [ht]; exact hP, by rw [ht]; exact ⟨hS.1, hS.2.1, fun _ h => by cases h⟩⟩) (fun q hq => hS.2.2 q hq) hd (hlocks := C.locks)
theorem ax_lret (C : ax_C x Y i h mc ms) {v : Int64} (hr : i.2.2.2 = some .long) (hd : decode i.2.1 pc = .ok (.lreturn, 1)) (e1 : r = some (.long v)) (e2 : g' = g) (e3 : kc = mc) (e4 : ks = ms) : ax_V x Y ad kc ks (ax_Q x Y ad r N g' mc ms) N g pc L [.long v] := by
  subst e1; subst e2; subst e3; subst e4
  exact fun H ls locs hP hD hS hL => W.lret C.exec C.bytes (C.ret.trans hr) (fun t ht hW => ⟨rfl, by rw [ht]; exact hP, by rw [ht]; exact ⟨hS.1, hS.2.1, fun _ h => by cases h⟩⟩) (fun q hq => hS.2.2 q hq) hd (hlocks := C.locks)
theorem ax_vret (C : ax_C x Y i h mc ms) (hr : i.2.2.2 = none) (hd : decode i.2.1 pc = .ok (.return_, 1)) (e1 : r = none) (e2 : g' = g) (e3 : kc = mc) (e4 : ks = ms) : ax_V x Y ad kc ks (ax_Q x Y ad r N g' mc ms) N g pc L [] := by
  subst e1; subst e2; subst e3; subst e4
  exact fun H ls locs hP hD hS hL => W.vret C.exec C.bytes (C.ret.trans hr) (fun t ht hW => ⟨rfl, by rw [ht]; exact hP, by rw [ht]; exact ⟨hS.1, hS.2.1, fun _ h => by cases h⟩⟩) (fun q hq => hS.2.2 q hq) hd (hlocks := C.locks)
end AXC
end
section
/-! words of the tables by their places; shapes of the world -/
theorem ax_in {w : Cond} (n : Nat) (h : lw_tbl[n]? = some w) (hg : goodWord w = true) : w ∈ ax_tb := List.mem_filter.mpr ⟨List.mem_of_getElem? h, hg⟩
theorem ax_pl {ws : List Cond} (ps : List Nat) (h : ws.map some = ps.map (fun i => lw_tbl[i]?)) (hg : ws.all goodWord = true) : ∀ w ∈ ws, w ∈ ax_tb := by
  intro w hw
  have h1 : some w ∈ ws.map some := List.mem_map.mpr ⟨w, hw, rfl⟩
  rw [h] at h1
  obtain ⟨n, -, hn⟩ := List.mem_map.mp h1
  exact ax_in n hn (List.all_eq_true.mp hg w hw)
def ax_CL (ci : Nat) (q : vw_C) (ty0 : Nat → FieldType) : Prop := vwCl[ci]? = some q ∧ (∀ w ∈ u_ws q.1 q.2.1 q.2.2, w ∈ ax_tb) ∧ (∀ k, k < q.2.2 → parseFieldDescriptor (q.2.1 k).2.2.1 = some (ty0 k)) ∧ (∀ a, a < q.2.2 → ∀ b, b < q.2.2 → a ≠ b → (q.2.1 a).2.1 ≠ (q.2.1 b).2.1)
/-- field j of class ci, spelt by entry idx of the class own -/
def ax_FL (own : String) (idx ci j : Nat) (fin : Bool) (ty : FieldType) : Prop := ∃ (q : vw_C) (ty0 : Nat → FieldType), ax_CL ci q ty0 ∧ j < q.2.2 ∧ Cond.fieldLink own idx (q.2.1 j).1 (q.2.1 j).2.1 (q.2.1 j).2.2.1 ∈ ax_tb ∧ (q.2.1 j).2.2.2 = fin ∧ ty0 j = ty
set_option maxRecDepth 20000 in
theorem clX0 : ax_CL 0 (RX0, TX0, 3) tyX0 := ⟨rfl, ax_pl [186, 188, 190] (by decide +kernel) (by decide +kernel), tyX0_ok, nmX0⟩
set_option maxRecDepth 20000 in
theorem clX1 : ax_CL 1 (RX1, TX1, 2) tyX1 := ⟨rfl, ax_pl [216, 218] (by decide +kernel) (by decide +kernel), tyX1_ok, nmX1⟩
set_option maxRecDepth 20000 in
theorem clX2 : ax_CL 2 (RX2, TX2, 1) tyX2 := ⟨rfl, ax_pl [203] (by decide +kernel) (by decide +kernel), tyX2_ok, nmX2⟩
set_option maxRecDepth 20000 in
theorem clX3 : ax_CL 3 (RX3, TX3, 12) tyX3 := ⟨rfl, ax_pl [114, 116, 118, 120, 122, 124, 126, 128, 130, 132, 134, 136] (by decide +kernel) (by decide +kernel), tyX3_ok, nmX3⟩
set_option maxRecDepth 20000 in
theorem clX4 : ax_CL 4 (RX4, TX4, 8) tyX4 := ⟨rfl, ax_pl [154, 156, 158, 160, 162, 164, 166, 168] (by decide +kernel) (by decide +kernel), tyX4_ok, nmX4⟩
set_option maxRecDepth 20000 in
theorem clX5 : ax_CL 5 (RX5, TX5, 4) tyX5 := ⟨rfl, ax_pl [234, 236, 238, 240] (by decide +kernel) (by decide +kernel), tyX5_ok, nmX5⟩
set_option maxRecDepth 20000 in
theorem clX6 : ax_CL 6 (RX6, TX6, 9) tyX6 := ⟨rfl, ax_pl [252, 254, 256, 258, 260, 262, 264, 266, 268] (by decide +kernel) (by decide +kernel), tyX6_ok, nmX6⟩
set_option maxRecDepth 20000 in
theorem clX7 : ax_CL 7 (RX7, TX7, 35) tyX7 := ⟨rfl, ax_pl [752, 754, 756, 758, 760, 762, 764, 766, 768, 770, 772, 774, 776, 778, 780, 782, 784, 786, 788, 790, 792, 794, 796, 798, 800, 802, 804, 806, 808, 810, 812, 814, 816, 818, 820] (by decide +kernel) (by decide +kernel), tyX7_ok, nmX7⟩
theorem fX3_9 : ax_FL RX3 9 3 0 true (.array .int) := ⟨(RX3, TX3, 12), tyX3, clX3, by decide, ax_in 73 (by decide +kernel) rfl, rfl, rfl⟩
theorem fX4_65 : ax_FL RX4 65 3 0 true (.array .int) := ⟨(RX3, TX3, 12), tyX3, clX3, by decide, ax_in 74 (by decide +kernel) rfl, rfl, rfl⟩
theorem fX3_15 : ax_FL RX3 15 3 1 true (.array .int) := ⟨(RX3, TX3, 12), tyX3, clX3, by decide, ax_in 75 (by decide +kernel) rfl, rfl, rfl⟩
theorem fX1_19 : ax_FL RX1 19 3 1 true (.array .int) := ⟨(RX3, TX3, 12), tyX3, clX3, by decide, ax_in 76 (by decide +kernel) rfl, rfl, rfl⟩
theorem fX4_76 : ax_FL RX4 76 3 1 true (.array .int) := ⟨(RX3, TX3, 12), tyX3, clX3, by decide, ax_in 77 (by decide +kernel) rfl, rfl, rfl⟩
theorem fX2_71 : ax_FL RX2 71 3 1 true (.array .int) := ⟨(RX3, TX3, 12), tyX3, clX3, by decide, ax_in 78 (by decide +kernel) rfl, rfl, rfl⟩
theorem fX6_225 : ax_FL RX6 225 3 1 true (.array .int) := ⟨(RX3, TX3, 12), tyX3, clX3, by decide, ax_in 79 (by decide +kernel) rfl, rfl, rfl⟩
theorem fX3_18 : ax_FL RX3 18 3 2 true (.array .int) := ⟨(RX3, TX3, 12), tyX3, clX3, by decide, ax_in 80 (by decide +kernel) rfl, rfl, rfl⟩
theorem fX1_38 : ax_FL RX1 38 3 2 true (.array .int) := ⟨(RX3, TX3, 12), tyX3, clX3, by decide, ax_in 81 (by decide +kernel) rfl, rfl, rfl⟩
theorem fX4_83 : ax_FL RX4 83 3 2 true (.array .int) := ⟨(RX3, TX3, 12), tyX3, clX3, by decide, ax_in 82 (by decide +kernel) rfl, rfl, rfl⟩
theorem fX2_74 : ax_FL RX2 74 3 2 true (.array .int) := ⟨(RX3, TX3, 12), tyX3, clX3, by decide, ax_in 83 (by decide +kernel) rfl, rfl, rfl⟩
theorem fX6_165 : ax_FL RX6 165 3 2 true (.array .int) := ⟨(RX3, TX3, 12), tyX3, clX3, by decide, ax_in 84 (by decide +kernel) rfl, rfl, rfl⟩
theorem fX3_21 : ax_FL RX3 21 3 3 true (.array .int) := ⟨(RX3, TX3, 12), tyX3, clX3, by decide, ax_in 85 (by decide +kernel) rfl, rfl, rfl⟩
theorem fX1_32 : ax_FL RX1 32 3 3 true (.array .int) := ⟨(RX3, TX3, 12), tyX3, clX3, by decide, ax_in 86 (by decide +kernel) rfl, rfl, rfl⟩
theorem fX4_86 : ax_FL RX4 86 3 3 true (.array .int) := ⟨(RX3, TX3, 12), tyX3, clX3, by decide, ax_in 87 (by decide +kernel) rfl, rfl, rfl⟩
theorem fX2_49 : ax_FL RX2 49 3 3 true (.array .int) := ⟨(RX3, TX3, 12), tyX3, clX3, by decide, ax_in 88 (by decide +kernel) rfl, rfl, rfl⟩
theorem fX6_168 : ax_FL RX6 168 3 3 true (.array .int) := ⟨(RX3, TX3, 12), tyX3, clX3, by decide, ax_in 89 (by decide +kernel) rfl, rfl, rfl⟩
theorem fX3_24 : ax_FL RX3 24 3 4 true (.array .int) := ⟨(RX3, TX3, 12), tyX3, clX3, by decide, ax_in 90 (by decide +kernel) rfl, rfl, rfl⟩
theorem fX2_29 : ax_FL RX2 29 3 4 true (.array .int) := ⟨(RX3, TX3, 12), tyX3, clX3, by decide, ax_in 91 (by decide +kernel) rfl, rfl, rfl⟩
theorem fX4_89 : ax_FL RX4 89 3 4 true (.array .int) := ⟨(RX3, TX3, 12), tyX3, clX3, by decide, ax_in 92 (by decide +kernel) rfl, rfl, rfl⟩
theorem fX6_153 : ax_FL RX6 153 3 4 true (.array .int) := ⟨(RX3, TX3, 12), tyX3, clX3, by decide, ax_in 93 (by decide +kernel) rfl, rfl, rfl⟩
theorem fX3_27 : ax_FL RX3 27 3 5 true (.array .int) := ⟨(RX3, TX3, 12), tyX3, clX3, by decide, ax_in 94 (by decide +kernel) rfl, rfl, rfl⟩
theorem fX2_43 : ax_FL RX2 43 3 5 true (.array .int) := ⟨(RX3, TX3, 12), tyX3, clX3, by decide, ax_in 95 (by decide +kernel) rfl, rfl, rfl⟩
theorem fX6_149 : ax_FL RX6 149 3 5 true (.array .int) := ⟨(RX3, TX3, 12), tyX3, clX3, by decide, ax_in 96 (by decide +kernel) rfl, rfl, rfl⟩
theorem fX3_30 : ax_FL RX3 30 3 6 true (.array .int) := ⟨(RX3, TX3, 12), tyX3, clX3, by decide, ax_in 97 (by decide +kernel) rfl, rfl, rfl⟩
theorem fX2_77 : ax_FL RX2 77 3 6 true (.array .int) := ⟨(RX3, TX3, 12), tyX3, clX3, by decide, ax_in 98 (by decide +kernel) rfl, rfl, rfl⟩
theorem fX6_171 : ax_FL RX6 171 3 6 true (.array .int) := ⟨(RX3, TX3, 12), tyX3, clX3, by decide, ax_in 99 (by decide +kernel) rfl, rfl, rfl⟩
theorem fX3_33 : ax_FL RX3 33 3 7 true (.array .int) := ⟨(RX3, TX3, 12), tyX3, clX3, by decide, ax_in 100 (by decide +kernel) rfl, rfl, rfl⟩
theorem fX2_55 : ax_FL RX2 55 3 7 true (.array .int) := ⟨(RX3, TX3, 12), tyX3, clX3, by decide, ax_in 101 (by decide +kernel) rfl, rfl, rfl⟩
theorem fX3_36 : ax_FL RX3 36 3 8 true (.array .int) := ⟨(RX3, TX3, 12), tyX3, clX3, by decide, ax_in 102 (by decide +kernel) rfl, rfl, rfl⟩
theorem fX2_52 : ax_FL RX2 52 3 8 true (.array .int) := ⟨(RX3, TX3, 12), tyX3, clX3, by decide, ax_in 103 (by decide +kernel) rfl, rfl, rfl⟩
theorem fX6_181 : ax_FL RX6 181 3 8 true (.array .int) := ⟨(RX3, TX3, 12), tyX3, clX3, by decide, ax_in 104 (by decide +kernel) rfl, rfl, rfl⟩
theorem fX4_26 : ax_FL RX4 26 3 9 false (.boolean) := ⟨(RX3, TX3, 12), tyX3, clX3, by decide, ax_in 105 (by decide +kernel) rfl, rfl, rfl⟩
theorem fX3_43 : ax_FL RX3 43 3 9 false (.boolean) := ⟨(RX3, TX3, 12), tyX3, clX3, by decide, ax_in 106 (by decide +kernel) rfl, rfl, rfl⟩
theorem fX6_132 : ax_FL RX6 132 3 9 false (.boolean) := ⟨(RX3, TX3, 12), tyX3, clX3, by decide, ax_in 107 (by decide +kernel) rfl, rfl, rfl⟩
theorem fX4_22 : ax_FL RX4 22 3 10 false (.int) := ⟨(RX3, TX3, 12), tyX3, clX3, by decide, ax_in 108 (by decide +kernel) rfl, rfl, rfl⟩
theorem fX3_47 : ax_FL RX3 47 3 10 false (.int) := ⟨(RX3, TX3, 12), tyX3, clX3, by decide, ax_in 109 (by decide +kernel) rfl, rfl, rfl⟩
theorem fX2_38 : ax_FL RX2 38 3 10 false (.int) := ⟨(RX3, TX3, 12), tyX3, clX3, by decide, ax_in 110 (by decide +kernel) rfl, rfl, rfl⟩
theorem fX6_129 : ax_FL RX6 129 3 10 false (.int) := ⟨(RX3, TX3, 12), tyX3, clX3, by decide, ax_in 111 (by decide +kernel) rfl, rfl, rfl⟩
theorem fX3_51 : ax_FL RX3 51 3 11 false (.int) := ⟨(RX3, TX3, 12), tyX3, clX3, by decide, ax_in 112 (by decide +kernel) rfl, rfl, rfl⟩
theorem fX6_136 : ax_FL RX6 136 3 11 false (.int) := ⟨(RX3, TX3, 12), tyX3, clX3, by decide, ax_in 113 (by decide +kernel) rfl, rfl, rfl⟩
theorem fX4_9 : ax_FL RX4 9 4 0 true (.array .byte) := ⟨(RX4, TX4, 8), tyX4, clX4, by decide, ax_in 141 (by decide +kernel) rfl, rfl, rfl⟩
theorem fX6_105 : ax_FL RX6 105 4 0 true (.array .byte) := ⟨(RX4, TX4, 8), tyX4, clX4, by decide, ax_in 142 (by decide +kernel) rfl, rfl, rfl⟩
theorem fX6_103 : ax_FL RX6 103 4 1 false (.int) := ⟨(RX4, TX4, 8), tyX4, clX4, by decide, ax_in 143 (by decide +kernel) rfl, rfl, rfl⟩
theorem fX4_105 : ax_FL RX4 105 4 1 false (.int) := ⟨(RX4, TX4, 8), tyX4, clX4, by decide, ax_in 144 (by decide +kernel) rfl, rfl, rfl⟩
theorem fX4_18 : ax_FL RX4 18 4 2 true (.object "FirstCart$Pass") := ⟨(RX4, TX4, 8), tyX4, clX4, by decide, ax_in 145 (by decide +kernel) rfl, rfl, rfl⟩
theorem fX6_121 : ax_FL RX6 121 4 2 true (.object "FirstCart$Pass") := ⟨(RX4, TX4, 8), tyX4, clX4, by decide, ax_in 146 (by decide +kernel) rfl, rfl, rfl⟩
theorem fX4_43 : ax_FL RX4 43 4 3 false (.int) := ⟨(RX4, TX4, 8), tyX4, clX4, by decide, ax_in 147 (by decide +kernel) rfl, rfl, rfl⟩
theorem fX6_118 : ax_FL RX6 118 4 4 false (.int) := ⟨(RX4, TX4, 8), tyX4, clX4, by decide, ax_in 148 (by decide +kernel) rfl, rfl, rfl⟩
theorem fX4_102 : ax_FL RX4 102 4 4 false (.int) := ⟨(RX4, TX4, 8), tyX4, clX4, by decide, ax_in 149 (by decide +kernel) rfl, rfl, rfl⟩
theorem fX4_30 : ax_FL RX4 30 4 5 false (.int) := ⟨(RX4, TX4, 8), tyX4, clX4, by decide, ax_in 150 (by decide +kernel) rfl, rfl, rfl⟩
theorem fX4_68 : ax_FL RX4 68 4 6 false (.int) := ⟨(RX4, TX4, 8), tyX4, clX4, by decide, ax_in 151 (by decide +kernel) rfl, rfl, rfl⟩
theorem fX4_33 : ax_FL RX4 33 4 7 false (.int) := ⟨(RX4, TX4, 8), tyX4, clX4, by decide, ax_in 152 (by decide +kernel) rfl, rfl, rfl⟩
theorem fX6_113 : ax_FL RX6 113 4 7 false (.int) := ⟨(RX4, TX4, 8), tyX4, clX4, by decide, ax_in 153 (by decide +kernel) rfl, rfl, rfl⟩
theorem fX0_9 : ax_FL RX0 9 0 0 true (.array .int) := ⟨(RX0, TX0, 3), tyX0, clX0, by decide, ax_in 180 (by decide +kernel) rfl, rfl, rfl⟩
theorem fX6_156 : ax_FL RX6 156 0 0 true (.array .int) := ⟨(RX0, TX0, 3), tyX0, clX0, by decide, ax_in 181 (by decide +kernel) rfl, rfl, rfl⟩
theorem fX0_15 : ax_FL RX0 15 0 1 true (.array .int) := ⟨(RX0, TX0, 3), tyX0, clX0, by decide, ax_in 182 (by decide +kernel) rfl, rfl, rfl⟩
theorem fX6_159 : ax_FL RX6 159 0 1 true (.array .int) := ⟨(RX0, TX0, 3), tyX0, clX0, by decide, ax_in 183 (by decide +kernel) rfl, rfl, rfl⟩
theorem fX0_18 : ax_FL RX0 18 0 2 false (.int) := ⟨(RX0, TX0, 3), tyX0, clX0, by decide, ax_in 184 (by decide +kernel) rfl, rfl, rfl⟩
theorem fX6_128 : ax_FL RX6 128 0 2 false (.int) := ⟨(RX0, TX0, 3), tyX0, clX0, by decide, ax_in 185 (by decide +kernel) rfl, rfl, rfl⟩
theorem fX2_12 : ax_FL RX2 12 2 0 true (.object "FirstCart$Pass") := ⟨(RX2, TX2, 1), tyX2, clX2, by decide, ax_in 201 (by decide +kernel) rfl, rfl, rfl⟩
theorem fX6_192 : ax_FL RX6 192 2 0 true (.object "FirstCart$Pass") := ⟨(RX2, TX2, 1), tyX2, clX2, by decide, ax_in 202 (by decide +kernel) rfl, rfl, rfl⟩
theorem fX1_9 : ax_FL RX1 9 1 0 true (.array .int) := ⟨(RX1, TX1, 2), tyX1, clX1, by decide, ax_in 212 (by decide +kernel) rfl, rfl, rfl⟩
theorem fX6_241 : ax_FL RX6 241 1 0 true (.array .int) := ⟨(RX1, TX1, 2), tyX1, clX1, by decide, ax_in 213 (by decide +kernel) rfl, rfl, rfl⟩
theorem fX1_15 : ax_FL RX1 15 1 1 false (.int) := ⟨(RX1, TX1, 2), tyX1, clX1, by decide, ax_in 214 (by decide +kernel) rfl, rfl, rfl⟩
theorem fX6_240 : ax_FL RX6 240 1 1 false (.int) := ⟨(RX1, TX1, 2), tyX1, clX1, by decide, ax_in 215 (by decide +kernel) rfl, rfl, rfl⟩
theorem fX5_9 : ax_FL RX5 9 5 0 true (.array .int) := ⟨(RX5, TX5, 4), tyX5, clX5, by decide, ax_in 226 (by decide +kernel) rfl, rfl, rfl⟩
theorem fX6_84 : ax_FL RX6 84 5 0 true (.array .int) := ⟨(RX5, TX5, 4), tyX5, clX5, by decide, ax_in 227 (by decide +kernel) rfl, rfl, rfl⟩
theorem fX5_21 : ax_FL RX5 21 5 1 false (.boolean) := ⟨(RX5, TX5, 4), tyX5, clX5, by decide, ax_in 228 (by decide +kernel) rfl, rfl, rfl⟩
theorem fX6_76 : ax_FL RX6 76 5 1 false (.boolean) := ⟨(RX5, TX5, 4), tyX5, clX5, by decide, ax_in 229 (by decide +kernel) rfl, rfl, rfl⟩
theorem fX5_25 : ax_FL RX5 25 5 2 false (.int) := ⟨(RX5, TX5, 4), tyX5, clX5, by decide, ax_in 230 (by decide +kernel) rfl, rfl, rfl⟩
theorem fX6_91 : ax_FL RX6 91 5 2 false (.int) := ⟨(RX5, TX5, 4), tyX5, clX5, by decide, ax_in 231 (by decide +kernel) rfl, rfl, rfl⟩
theorem fX5_29 : ax_FL RX5 29 5 3 false (.int) := ⟨(RX5, TX5, 4), tyX5, clX5, by decide, ax_in 232 (by decide +kernel) rfl, rfl, rfl⟩
theorem fX6_100 : ax_FL RX6 100 5 3 false (.int) := ⟨(RX5, TX5, 4), tyX5, clX5, by decide, ax_in 233 (by decide +kernel) rfl, rfl, rfl⟩
theorem fX6_11 : ax_FL RX6 11 6 0 true (.array (.object "FirstCart$Row")) := ⟨(RX6, TX6, 9), tyX6, clX6, by decide, ax_in 243 (by decide +kernel) rfl, rfl, rfl⟩
theorem fX6_18 : ax_FL RX6 18 6 1 true (.object "FirstCart$Reader") := ⟨(RX6, TX6, 9), tyX6, clX6, by decide, ax_in 244 (by decide +kernel) rfl, rfl, rfl⟩
theorem fX6_25 : ax_FL RX6 25 6 2 true (.object "FirstCart$Pass") := ⟨(RX6, TX6, 9), tyX6, clX6, by decide, ax_in 245 (by decide +kernel) rfl, rfl, rfl⟩
theorem fX6_29 : ax_FL RX6 29 6 3 true (.array (.object "FirstCart$Pass")) := ⟨(RX6, TX6, 9), tyX6, clX6, by decide, ax_in 246 (by decide +kernel) rfl, rfl, rfl⟩
theorem fX6_36 : ax_FL RX6 36 6 4 true (.object "FirstCart$Acts") := ⟨(RX6, TX6, 9), tyX6, clX6, by decide, ax_in 247 (by decide +kernel) rfl, rfl, rfl⟩
theorem fX6_43 : ax_FL RX6 43 6 5 true (.object "FirstCart$Foretold") := ⟨(RX6, TX6, 9), tyX6, clX6, by decide, ax_in 248 (by decide +kernel) rfl, rfl, rfl⟩
theorem fX6_50 : ax_FL RX6 50 6 6 true (.object "FirstCart$Asks") := ⟨(RX6, TX6, 9), tyX6, clX6, by decide, ax_in 249 (by decide +kernel) rfl, rfl, rfl⟩
theorem fX6_116 : ax_FL RX6 116 6 7 false (.int) := ⟨(RX6, TX6, 9), tyX6, clX6, by decide, ax_in 250 (by decide +kernel) rfl, rfl, rfl⟩
theorem fX6_72 : ax_FL RX6 72 6 8 false (.int) := ⟨(RX6, TX6, 9), tyX6, clX6, by decide, ax_in 251 (by decide +kernel) rfl, rfl, rfl⟩
theorem fX7_65 : ax_FL RX7 65 7 0 false (.int) := ⟨(RX7, TX7, 35), tyX7, clX7, by decide, ax_in 717 (by decide +kernel) rfl, rfl, rfl⟩
theorem fX7_69 : ax_FL RX7 69 7 1 false (.int) := ⟨(RX7, TX7, 35), tyX7, clX7, by decide, ax_in 718 (by decide +kernel) rfl, rfl, rfl⟩
theorem fX7_7 : ax_FL RX7 7 7 2 true (.array .int) := ⟨(RX7, TX7, 35), tyX7, clX7, by decide, ax_in 719 (by decide +kernel) rfl, rfl, rfl⟩
theorem fX7_13 : ax_FL RX7 13 7 3 true (.array .int) := ⟨(RX7, TX7, 35), tyX7, clX7, by decide, ax_in 720 (by decide +kernel) rfl, rfl, rfl⟩
theorem fX7_16 : ax_FL RX7 16 7 4 true (.array .int) := ⟨(RX7, TX7, 35), tyX7, clX7, by decide, ax_in 721 (by decide +kernel) rfl, rfl, rfl⟩
theorem fX7_19 : ax_FL RX7 19 7 5 true (.array .int) := ⟨(RX7, TX7, 35), tyX7, clX7, by decide, ax_in 722 (by decide +kernel) rfl, rfl, rfl⟩
theorem fX7_22 : ax_FL RX7 22 7 6 true (.array .int) := ⟨(RX7, TX7, 35), tyX7, clX7, by decide, ax_in 723 (by decide +kernel) rfl, rfl, rfl⟩
theorem fX7_186 : ax_FL RX7 186 7 7 false (.boolean) := ⟨(RX7, TX7, 35), tyX7, clX7, by decide, ax_in 724 (by decide +kernel) rfl, rfl, rfl⟩
theorem fX7_25 : ax_FL RX7 25 7 8 true (.array .int) := ⟨(RX7, TX7, 35), tyX7, clX7, by decide, ax_in 725 (by decide +kernel) rfl, rfl, rfl⟩
theorem fX7_190 : ax_FL RX7 190 7 9 false (.int) := ⟨(RX7, TX7, 35), tyX7, clX7, by decide, ax_in 726 (by decide +kernel) rfl, rfl, rfl⟩
theorem fX7_28 : ax_FL RX7 28 7 10 true (.array .int) := ⟨(RX7, TX7, 35), tyX7, clX7, by decide, ax_in 727 (by decide +kernel) rfl, rfl, rfl⟩
theorem fX7_92 : ax_FL RX7 92 7 11 false (.int) := ⟨(RX7, TX7, 35), tyX7, clX7, by decide, ax_in 728 (by decide +kernel) rfl, rfl, rfl⟩
theorem fX7_182 : ax_FL RX7 182 7 12 false (.int) := ⟨(RX7, TX7, 35), tyX7, clX7, by decide, ax_in 729 (by decide +kernel) rfl, rfl, rfl⟩
theorem fX7_98 : ax_FL RX7 98 7 13 false (.int) := ⟨(RX7, TX7, 35), tyX7, clX7, by decide, ax_in 730 (by decide +kernel) rfl, rfl, rfl⟩
theorem fX7_102 : ax_FL RX7 102 7 14 false (.int) := ⟨(RX7, TX7, 35), tyX7, clX7, by decide, ax_in 731 (by decide +kernel) rfl, rfl, rfl⟩
theorem fX7_111 : ax_FL RX7 111 7 15 false (.int) := ⟨(RX7, TX7, 35), tyX7, clX7, by decide, ax_in 732 (by decide +kernel) rfl, rfl, rfl⟩
theorem fX7_108 : ax_FL RX7 108 7 16 false (.int) := ⟨(RX7, TX7, 35), tyX7, clX7, by decide, ax_in 733 (by decide +kernel) rfl, rfl, rfl⟩
theorem fX7_120 : ax_FL RX7 120 7 17 false (.int) := ⟨(RX7, TX7, 35), tyX7, clX7, by decide, ax_in 734 (by decide +kernel) rfl, rfl, rfl⟩
theorem fX7_123 : ax_FL RX7 123 7 18 false (.int) := ⟨(RX7, TX7, 35), tyX7, clX7, by decide, ax_in 735 (by decide +kernel) rfl, rfl, rfl⟩
theorem fX7_129 : ax_FL RX7 129 7 19 false (.int) := ⟨(RX7, TX7, 35), tyX7, clX7, by decide, ax_in 736 (by decide +kernel) rfl, rfl, rfl⟩
theorem fX7_195 : ax_FL RX7 195 7 20 false (.int) := ⟨(RX7, TX7, 35), tyX7, clX7, by decide, ax_in 737 (by decide +kernel) rfl, rfl, rfl⟩
theorem fX7_31 : ax_FL RX7 31 7 21 true (.array .int) := ⟨(RX7, TX7, 35), tyX7, clX7, by decide, ax_in 738 (by decide +kernel) rfl, rfl, rfl⟩
theorem fX7_34 : ax_FL RX7 34 7 22 true (.array .int) := ⟨(RX7, TX7, 35), tyX7, clX7, by decide, ax_in 739 (by decide +kernel) rfl, rfl, rfl⟩
theorem fX7_37 : ax_FL RX7 37 7 23 true (.array .int) := ⟨(RX7, TX7, 35), tyX7, clX7, by decide, ax_in 740 (by decide +kernel) rfl, rfl, rfl⟩
theorem fX7_40 : ax_FL RX7 40 7 24 true (.array .int) := ⟨(RX7, TX7, 35), tyX7, clX7, by decide, ax_in 741 (by decide +kernel) rfl, rfl, rfl⟩
theorem fX7_43 : ax_FL RX7 43 7 25 true (.array .int) := ⟨(RX7, TX7, 35), tyX7, clX7, by decide, ax_in 742 (by decide +kernel) rfl, rfl, rfl⟩
theorem fX7_46 : ax_FL RX7 46 7 26 true (.array .int) := ⟨(RX7, TX7, 35), tyX7, clX7, by decide, ax_in 743 (by decide +kernel) rfl, rfl, rfl⟩
theorem fX7_49 : ax_FL RX7 49 7 27 true (.array .int) := ⟨(RX7, TX7, 35), tyX7, clX7, by decide, ax_in 744 (by decide +kernel) rfl, rfl, rfl⟩
theorem fX7_52 : ax_FL RX7 52 7 28 true (.array .int) := ⟨(RX7, TX7, 35), tyX7, clX7, by decide, ax_in 745 (by decide +kernel) rfl, rfl, rfl⟩
theorem fX7_198 : ax_FL RX7 198 7 29 false (.boolean) := ⟨(RX7, TX7, 35), tyX7, clX7, by decide, ax_in 746 (by decide +kernel) rfl, rfl, rfl⟩
theorem fX7_245 : ax_FL RX7 245 7 30 false (.int) := ⟨(RX7, TX7, 35), tyX7, clX7, by decide, ax_in 747 (by decide +kernel) rfl, rfl, rfl⟩
theorem fX7_55 : ax_FL RX7 55 7 31 true (.array .boolean) := ⟨(RX7, TX7, 35), tyX7, clX7, by decide, ax_in 748 (by decide +kernel) rfl, rfl, rfl⟩
theorem fX7_59 : ax_FL RX7 59 7 32 true (.array .int) := ⟨(RX7, TX7, 35), tyX7, clX7, by decide, ax_in 749 (by decide +kernel) rfl, rfl, rfl⟩
theorem fX7_62 : ax_FL RX7 62 7 33 true (.array .int) := ⟨(RX7, TX7, 35), tyX7, clX7, by decide, ax_in 750 (by decide +kernel) rfl, rfl, rfl⟩
theorem fX7_269 : ax_FL RX7 269 7 34 false (.int) := ⟨(RX7, TX7, 35), tyX7, clX7, by decide, ax_in 751 (by decide +kernel) rfl, rfl, rfl⟩
abbrev iX6_init : ax_I := (yX6_init, cX6_init, 2, none)
theorem kX6_init : ax_cal iX6_init 0 := ⟨ax_in 55 (by decide +kernel) rfl, ax_in 35 (by decide +kernel) rfl, ⟨by decide +kernel, by decide +kernel⟩, by decide +kernel, by decide, by decide +kernel⟩
theorem nX6_init : Cond.instanceMethod yX6_init ∈ ax_tb := ax_in 54 (by decide +kernel) rfl
abbrev iX4_init : ax_I := (yX4_init, cX4_init, 1, none)
theorem kX4_init : ax_cal iX4_init 0 := ⟨ax_in 65 (by decide +kernel) rfl, ax_in 36 (by decide +kernel) rfl, ⟨by decide +kernel, by decide +kernel⟩, by decide +kernel, by decide, by decide +kernel⟩
theorem nX4_init : Cond.instanceMethod yX4_init ∈ ax_tb := ax_in 64 (by decide +kernel) rfl
abbrev iX3_init : ax_I := (yX3_init, cX3_init, 1, none)
theorem kX3_init : ax_cal iX3_init 0 := ⟨ax_in 71 (by decide +kernel) rfl, ax_in 37 (by decide +kernel) rfl, ⟨by decide +kernel, by decide +kernel⟩, by decide +kernel, by decide, by decide +kernel⟩
theorem nX3_init : Cond.instanceMethod yX3_init ∈ ax_tb := ax_in 70 (by decide +kernel) rfl
abbrev iX0_init : ax_I := (yX0_init, cX0_init, 1, none)
theorem kX0_init : ax_cal iX0_init 0 := ⟨ax_in 178 (by decide +kernel) rfl, ax_in 38 (by decide +kernel) rfl, ⟨by decide +kernel, by decide +kernel⟩, by decide +kernel, by decide, by decide +kernel⟩
theorem nX0_init : Cond.instanceMethod yX0_init ∈ ax_tb := ax_in 177 (by decide +kernel) rfl
abbrev iX2_init : ax_I := (yX2_init, cX2_init, 1, none)
theorem kX2_init : ax_cal iX2_init 0 := ⟨ax_in 197 (by decide +kernel) rfl, ax_in 39 (by decide +kernel) rfl, ⟨by decide +kernel, by decide +kernel⟩, by decide +kernel, by decide, by decide +kernel⟩
theorem nX2_init : Cond.instanceMethod yX2_init ∈ ax_tb := ax_in 196 (by decide +kernel) rfl
abbrev iX1_init : ax_I := (yX1_init, cX1_init, 1, none)
theorem kX1_init : ax_cal iX1_init 0 := ⟨ax_in 210 (by decide +kernel) rfl, ax_in 40 (by decide +kernel) rfl, ⟨by decide +kernel, by decide +kernel⟩, by decide +kernel, by decide, by decide +kernel⟩
theorem nX1_init : Cond.instanceMethod yX1_init ∈ ax_tb := ax_in 209 (by decide +kernel) rfl
abbrev iX5_init : ax_I := (yX5_init, cX5_init, 1, none)
theorem kX5_init : ax_cal iX5_init 0 := ⟨ax_in 224 (by decide +kernel) rfl, ax_in 41 (by decide +kernel) rfl, ⟨by decide +kernel, by decide +kernel⟩, by decide +kernel, by decide, by decide +kernel⟩
theorem nX5_init : Cond.instanceMethod yX5_init ∈ ax_tb := ax_in 223 (by decide +kernel) rfl
abbrev iX6_row : ax_I := (yX6_row, cX6_row, 4, (some .int))
theorem kX6_row : ax_calV iX6_row 3 := ⟨⟨ax_in 274 (by decide +kernel) rfl, ax_in 35 (by decide +kernel) rfl, ⟨by decide +kernel, by decide +kernel⟩, by decide +kernel, by decide, by decide +kernel⟩, ax_in 272 (by decide +kernel) rfl, ax_in 273 (by decide +kernel) rfl⟩
abbrev iX6_isRow : ax_I := (yX6_isRow, cX6_isRow, 1, (some .boolean))
theorem kX6_isRow : ax_calS iX6_isRow 1 := ⟨⟨ax_in 277 (by decide +kernel) rfl, ax_in 35 (by decide +kernel) rfl, ⟨by decide +kernel, by decide +kernel⟩, by decide +kernel, by decide, by decide +kernel⟩, ax_in 276 (by decide +kernel) rfl⟩
abbrev iX6_isWithin : ax_I := (yX6_isWithin, cX6_isWithin, 3, (some .boolean))
theorem kX6_isWithin : ax_calS iX6_isWithin 3 := ⟨⟨ax_in 280 (by decide +kernel) rfl, ax_in 35 (by decide +kernel) rfl, ⟨by decide +kernel, by decide +kernel⟩, by decide +kernel, by decide, by decide +kernel⟩, ax_in 279 (by decide +kernel) rfl⟩
abbrev iX6_found : ax_I := (yX6_found, cX6_found, 2, (some .int))
theorem kX6_found : ax_calV iX6_found 1 := ⟨⟨ax_in 285 (by decide +kernel) rfl, ax_in 35 (by decide +kernel) rfl, ⟨by decide +kernel, by decide +kernel⟩, by decide +kernel, by decide, by decide +kernel⟩, ax_in 284 (by decide +kernel) rfl, ax_in 0 (by decide +kernel) rfl⟩
abbrev iX5_begin : ax_I := (yX5_begin, cX5_begin, 3, none)
theorem kX5_begin : ax_calV iX5_begin 2 := ⟨⟨ax_in 290 (by decide +kernel) rfl, ax_in 41 (by decide +kernel) rfl, ⟨by decide +kernel, by decide +kernel⟩, by decide +kernel, by decide, by decide +kernel⟩, ax_in 288 (by decide +kernel) rfl, ax_in 289 (by decide +kernel) rfl⟩
abbrev iJ7_fill_53178 : ax_I := (yJ7_fill_53178, cJ7_fill_53178, 4, none)
theorem kJ7_fill_53178 : ax_calS iJ7_fill_53178 2 := ⟨⟨ax_in 293 (by decide +kernel) rfl, ax_in 43 (by decide +kernel) rfl, ⟨by decide +kernel, by decide +kernel⟩, by decide +kernel, by decide, by decide +kernel⟩, ax_in 292 (by decide +kernel) rfl⟩
abbrev iX6_set : ax_I := (yX6_set, cX6_set, 5, (some .int))
theorem kX6_set : ax_calV iX6_set 3 := ⟨⟨ax_in 297 (by decide +kernel) rfl, ax_in 35 (by decide +kernel) rfl, ⟨by decide +kernel, by decide +kernel⟩, by decide +kernel, by decide, by decide +kernel⟩, ax_in 295 (by decide +kernel) rfl, ax_in 296 (by decide +kernel) rfl⟩
abbrev iX5_hasPlaces : ax_I := (yX5_hasPlaces, cX5_hasPlaces, 3, (some .boolean))
theorem kX5_hasPlaces : ax_calV iX5_hasPlaces 2 := ⟨⟨ax_in 301 (by decide +kernel) rfl, ax_in 41 (by decide +kernel) rfl, ⟨by decide +kernel, by decide +kernel⟩, by decide +kernel, by decide, by decide +kernel⟩, ax_in 299 (by decide +kernel) rfl, ax_in 300 (by decide +kernel) rfl⟩
abbrev iX5_lowestBits : ax_I := (yX5_lowestBits, cX5_lowestBits, 2, (some .int))
theorem kX5_lowestBits : ax_calV iX5_lowestBits 1 := ⟨⟨ax_in 305 (by decide +kernel) rfl, ax_in 41 (by decide +kernel) rfl, ⟨by decide +kernel, by decide +kernel⟩, by decide +kernel, by decide, by decide +kernel⟩, ax_in 303 (by decide +kernel) rfl, ax_in 304 (by decide +kernel) rfl⟩
abbrev iX6_copy : ax_I := (yX6_copy, cX6_copy, 8, (some .int))
theorem kX6_copy : ax_calV iX6_copy 5 := ⟨⟨ax_in 309 (by decide +kernel) rfl, ax_in 35 (by decide +kernel) rfl, ⟨by decide +kernel, by decide +kernel⟩, by decide +kernel, by decide, by decide +kernel⟩, ax_in 307 (by decide +kernel) rfl, ax_in 308 (by decide +kernel) rfl⟩
abbrev iX6_drop : ax_I := (yX6_drop, cX6_drop, 3, (some .int))
theorem kX6_drop : ax_calV iX6_drop 1 := ⟨⟨ax_in 316 (by decide +kernel) rfl, ax_in 35 (by decide +kernel) rfl, ⟨by decide +kernel, by decide +kernel⟩, by decide +kernel, by decide, by decide +kernel⟩, ax_in 314 (by decide +kernel) rfl, ax_in 315 (by decide +kernel) rfl⟩
abbrev iX6_feed : ax_I := (yX6_feed, cX6_feed, 5, (some .int))
theorem kX6_feed : ax_calV iX6_feed 2 := ⟨⟨ax_in 320 (by decide +kernel) rfl, ax_in 35 (by decide +kernel) rfl, ⟨by decide +kernel, by decide +kernel⟩, by decide +kernel, by decide, by decide +kernel⟩, ax_in 318 (by decide +kernel) rfl, ax_in 319 (by decide +kernel) rfl⟩
abbrev iX6_pass : ax_I := (yX6_pass, cX6_pass, 2, (some .int))
theorem kX6_pass : ax_calV iX6_pass 0 := ⟨⟨ax_in 325 (by decide +kernel) rfl, ax_in 35 (by decide +kernel) rfl, ⟨by decide +kernel, by decide +kernel⟩, by decide +kernel, by decide, by decide +kernel⟩, ax_in 323 (by decide +kernel) rfl, ax_in 324 (by decide +kernel) rfl⟩
abbrev iX4_readPass : ax_I := (yX4_readPass, cX4_readPass, 2, (some .boolean))
theorem kX4_readPass : ax_calV iX4_readPass 0 := ⟨⟨ax_in 329 (by decide +kernel) rfl, ax_in 36 (by decide +kernel) rfl, ⟨by decide +kernel, by decide +kernel⟩, by decide +kernel, by decide, by decide +kernel⟩, ax_in 327 (by decide +kernel) rfl, ax_in 328 (by decide +kernel) rfl⟩
abbrev iX4_readToll : ax_I := (yX4_readToll, cX4_readToll, 2, (some .boolean))
theorem kX4_readToll : ax_calV iX4_readToll 0 := ⟨⟨ax_in 333 (by decide +kernel) rfl, ax_in 36 (by decide +kernel) rfl, ⟨by decide +kernel, by decide +kernel⟩, by decide +kernel, by decide, by decide +kernel⟩, ax_in 331 (by decide +kernel) rfl, ax_in 332 (by decide +kernel) rfl⟩
abbrev iX4_step : ax_I := (yX4_step, cX4_step, 1, none)
theorem kX4_step : ax_calV iX4_step 0 := ⟨⟨ax_in 337 (by decide +kernel) rfl, ax_in 36 (by decide +kernel) rfl, ⟨by decide +kernel, by decide +kernel⟩, by decide +kernel, by decide, by decide +kernel⟩, ax_in 335 (by decide +kernel) rfl, ax_in 336 (by decide +kernel) rfl⟩
abbrev iX4_isLetter : ax_I := (yX4_isLetter, cX4_isLetter, 2, (some .boolean))
theorem kX4_isLetter : ax_calV iX4_isLetter 1 := ⟨⟨ax_in 341 (by decide +kernel) rfl, ax_in 36 (by decide +kernel) rfl, ⟨by decide +kernel, by decide +kernel⟩, by decide +kernel, by decide, by decide +kernel⟩, ax_in 339 (by decide +kernel) rfl, ax_in 340 (by decide +kernel) rfl⟩
abbrev iX4_stepName : ax_I := (yX4_stepName, cX4_stepName, 1, none)
theorem kX4_stepName : ax_calV iX4_stepName 0 := ⟨⟨ax_in 345 (by decide +kernel) rfl, ax_in 36 (by decide +kernel) rfl, ⟨by decide +kernel, by decide +kernel⟩, by decide +kernel, by decide, by decide +kernel⟩, ax_in 343 (by decide +kernel) rfl, ax_in 344 (by decide +kernel) rfl⟩
abbrev iX4_isFigure : ax_I := (yX4_isFigure, cX4_isFigure, 2, (some .boolean))
theorem kX4_isFigure : ax_calV iX4_isFigure 1 := ⟨⟨ax_in 349 (by decide +kernel) rfl, ax_in 36 (by decide +kernel) rfl, ⟨by decide +kernel, by decide +kernel⟩, by decide +kernel, by decide, by decide +kernel⟩, ax_in 347 (by decide +kernel) rfl, ax_in 348 (by decide +kernel) rfl⟩
abbrev iX4_stepNumber : ax_I := (yX4_stepNumber, cX4_stepNumber, 1, none)
theorem kX4_stepNumber : ax_calV iX4_stepNumber 0 := ⟨⟨ax_in 353 (by decide +kernel) rfl, ax_in 36 (by decide +kernel) rfl, ⟨by decide +kernel, by decide +kernel⟩, by decide +kernel, by decide, by decide +kernel⟩, ax_in 351 (by decide +kernel) rfl, ax_in 352 (by decide +kernel) rfl⟩
abbrev iX4_isWord : ax_I := (yX4_isWord, cX4_isWord, 3, (some .boolean))
theorem kX4_isWord : ax_calV iX4_isWord 1 := ⟨⟨ax_in 358 (by decide +kernel) rfl, ax_in 36 (by decide +kernel) rfl, ⟨by decide +kernel, by decide +kernel⟩, by decide +kernel, by decide, by decide +kernel⟩, ax_in 356 (by decide +kernel) rfl, ax_in 357 (by decide +kernel) rfl⟩
abbrev iJ0_length_8abf5 : ax_I := (yJ0_length_8abf5, cJ0_length_8abf5, 1, (some .int))
theorem kJ0_length_8abf5 : ax_calV iJ0_length_8abf5 0 := ⟨⟨ax_in 362 (by decide +kernel) rfl, ax_in 45 (by decide +kernel) rfl, ⟨by decide +kernel, by decide +kernel⟩, by decide +kernel, by decide, by decide +kernel⟩, ax_in 360 (by decide +kernel) rfl, ax_in 361 (by decide +kernel) rfl⟩
abbrev iJ0_coder_7d493 : ax_I := (yJ0_coder_7d493, cJ0_coder_7d493, 1, (some .byte))
theorem kJ0_coder_7d493 : ax_calV iJ0_coder_7d493 0 := ⟨⟨ax_in 366 (by decide +kernel) rfl, ax_in 45 (by decide +kernel) rfl, ⟨by decide +kernel, by decide +kernel⟩, by decide +kernel, by decide, by decide +kernel⟩, ax_in 364 (by decide +kernel) rfl, ax_in 365 (by decide +kernel) rfl⟩
abbrev iJ0_charAt_5068e : ax_I := (yJ0_charAt_5068e, cJ0_charAt_5068e, 2, (some .char))
theorem kJ0_charAt_5068e : ax_calV iJ0_charAt_5068e 1 := ⟨⟨ax_in 372 (by decide +kernel) rfl, ax_in 45 (by decide +kernel) rfl, ⟨by decide +kernel, by decide +kernel⟩, by decide +kernel, by decide, by decide +kernel⟩, ax_in 370 (by decide +kernel) rfl, ax_in 371 (by decide +kernel) rfl⟩
abbrev iJ0_isLatin1_aae02 : ax_I := (yJ0_isLatin1_aae02, cJ0_isLatin1_aae02, 1, (some .boolean))
theorem kJ0_isLatin1_aae02 : ax_calV iJ0_isLatin1_aae02 0 := ⟨⟨ax_in 376 (by decide +kernel) rfl, ax_in 45 (by decide +kernel) rfl, ⟨by decide +kernel, by decide +kernel⟩, by decide +kernel, by decide, by decide +kernel⟩, ax_in 374 (by decide +kernel) rfl, ax_in 375 (by decide +kernel) rfl⟩
abbrev iJ1_charAt_3b067 : ax_I := (yJ1_charAt_3b067, cJ1_charAt_3b067, 2, (some .char))
theorem kJ1_charAt_3b067 : ax_calS iJ1_charAt_3b067 2 := ⟨⟨ax_in 379 (by decide +kernel) rfl, ax_in 46 (by decide +kernel) rfl, ⟨by decide +kernel, by decide +kernel⟩, by decide +kernel, by decide, by decide +kernel⟩, ax_in 378 (by decide +kernel) rfl⟩
abbrev iJ0_checkIndex_df160 : ax_I := (yJ0_checkIndex_df160, cJ0_checkIndex_df160, 2, none)
theorem kJ0_checkIndex_df160 : ax_calS iJ0_checkIndex_df160 2 := ⟨⟨ax_in 382 (by decide +kernel) rfl, ax_in 45 (by decide +kernel) rfl, ⟨by decide +kernel, by decide +kernel⟩, by decide +kernel, by decide, by decide +kernel⟩, ax_in 381 (by decide +kernel) rfl⟩
abbrev iJ3_checkIndex_8e157 : ax_I := (yJ3_checkIndex_8e157, cJ3_checkIndex_8e157, 3, (some .int))
theorem kJ3_checkIndex_8e157 : ax_calS iJ3_checkIndex_8e157 3 := ⟨⟨ax_in 387 (by decide +kernel) rfl, ax_in 47 (by decide +kernel) rfl, ⟨by decide +kernel, by decide +kernel⟩, by decide +kernel, by decide, by decide +kernel⟩, ax_in 386 (by decide +kernel) rfl⟩
abbrev iJ2_charAt_3b067 : ax_I := (yJ2_charAt_3b067, cJ2_charAt_3b067, 2, (some .char))
theorem kJ2_charAt_3b067 : ax_calS iJ2_charAt_3b067 2 := ⟨⟨ax_in 390 (by decide +kernel) rfl, ax_in 48 (by decide +kernel) rfl, ⟨by decide +kernel, by decide +kernel⟩, by decide +kernel, by decide, by decide +kernel⟩, ax_in 389 (by decide +kernel) rfl⟩
abbrev iJ2_checkIndex_2214a : ax_I := (yJ2_checkIndex_2214a, cJ2_checkIndex_2214a, 2, none)
theorem kJ2_checkIndex_2214a : ax_calS iJ2_checkIndex_2214a 2 := ⟨⟨ax_in 393 (by decide +kernel) rfl, ax_in 48 (by decide +kernel) rfl, ⟨by decide +kernel, by decide +kernel⟩, by decide +kernel, by decide, by decide +kernel⟩, ax_in 392 (by decide +kernel) rfl⟩
abbrev iJ2_length_9d52b : ax_I := (yJ2_length_9d52b, cJ2_length_9d52b, 1, (some .int))
theorem kJ2_length_9d52b : ax_calS iJ2_length_9d52b 1 := ⟨⟨ax_in 396 (by decide +kernel) rfl, ax_in 48 (by decide +kernel) rfl, ⟨by decide +kernel, by decide +kernel⟩, by decide +kernel, by decide, by decide +kernel⟩, ax_in 395 (by decide +kernel) rfl⟩
abbrev iJ2_getChar_3b067 : ax_I := (yJ2_getChar_3b067, cJ2_getChar_3b067, 2, (some .char))
theorem kJ2_getChar_3b067 : ax_calS iJ2_getChar_3b067 2 := ⟨⟨ax_in 400 (by decide +kernel) rfl, ax_in 48 (by decide +kernel) rfl, ⟨by decide +kernel, by decide +kernel⟩, by decide +kernel, by decide, by decide +kernel⟩, ax_in 399 (by decide +kernel) rfl⟩
abbrev iX4_fail : ax_I := (yX4_fail, cX4_fail, 2, (some .boolean))
theorem kX4_fail : ax_calV iX4_fail 1 := ⟨⟨ax_in 410 (by decide +kernel) rfl, ax_in 36 (by decide +kernel) rfl, ⟨by decide +kernel, by decide +kernel⟩, by decide +kernel, by decide, by decide +kernel⟩, ax_in 408 (by decide +kernel) rfl, ax_in 409 (by decide +kernel) rfl⟩
abbrev iX4_readNumber : ax_I := (yX4_readNumber, cX4_readNumber, 2, (some .boolean))
theorem kX4_readNumber : ax_calV iX4_readNumber 1 := ⟨⟨ax_in 414 (by decide +kernel) rfl, ax_in 36 (by decide +kernel) rfl, ⟨by decide +kernel, by decide +kernel⟩, by decide +kernel, by decide, by decide +kernel⟩, ax_in 412 (by decide +kernel) rfl, ax_in 413 (by decide +kernel) rfl⟩
abbrev iX4_readSign : ax_I := (yX4_readSign, cX4_readSign, 1, (some .boolean))
theorem kX4_readSign : ax_calV iX4_readSign 0 := ⟨⟨ax_in 418 (by decide +kernel) rfl, ax_in 36 (by decide +kernel) rfl, ⟨by decide +kernel, by decide +kernel⟩, by decide +kernel, by decide, by decide +kernel⟩, ax_in 416 (by decide +kernel) rfl, ax_in 417 (by decide +kernel) rfl⟩
abbrev iX3_beginAnew : ax_I := (yX3_beginAnew, cX3_beginAnew, 1, none)
theorem kX3_beginAnew : ax_calV iX3_beginAnew 0 := ⟨⟨ax_in 422 (by decide +kernel) rfl, ax_in 37 (by decide +kernel) rfl, ⟨by decide +kernel, by decide +kernel⟩, by decide +kernel, by decide, by decide +kernel⟩, ax_in 420 (by decide +kernel) rfl, ax_in 421 (by decide +kernel) rfl⟩
abbrev iX4_readCart : ax_I := (yX4_readCart, cX4_readCart, 2, (some .boolean))
theorem kX4_readCart : ax_calV iX4_readCart 0 := ⟨⟨ax_in 428 (by decide +kernel) rfl, ax_in 36 (by decide +kernel) rfl, ⟨by decide +kernel, by decide +kernel⟩, by decide +kernel, by decide, by decide +kernel⟩, ax_in 426 (by decide +kernel) rfl, ax_in 427 (by decide +kernel) rfl⟩
abbrev iX4_kindNamed : ax_I := (yX4_kindNamed, cX4_kindNamed, 1, (some .int))
theorem kX4_kindNamed : ax_calV iX4_kindNamed 0 := ⟨⟨ax_in 433 (by decide +kernel) rfl, ax_in 36 (by decide +kernel) rfl, ⟨by decide +kernel, by decide +kernel⟩, by decide +kernel, by decide, by decide +kernel⟩, ax_in 431 (by decide +kernel) rfl, ax_in 432 (by decide +kernel) rfl⟩
abbrev iX3_become : ax_I := (yX3_become, cX3_become, 2, none)
theorem kX3_become : ax_calV iX3_become 1 := ⟨⟨ax_in 443 (by decide +kernel) rfl, ax_in 37 (by decide +kernel) rfl, ⟨by decide +kernel, by decide +kernel⟩, by decide +kernel, by decide, by decide +kernel⟩, ax_in 441 (by decide +kernel) rfl, ax_in 442 (by decide +kernel) rfl⟩
abbrev iX3_copyAll : ax_I := (yX3_copyAll, cX3_copyAll, 2, none)
theorem kX3_copyAll : ax_calS iX3_copyAll 2 := ⟨⟨ax_in 446 (by decide +kernel) rfl, ax_in 37 (by decide +kernel) rfl, ⟨by decide +kernel, by decide +kernel⟩, by decide +kernel, by decide, by decide +kernel⟩, ax_in 445 (by decide +kernel) rfl⟩
abbrev iX6_fault : ax_I := (yX6_fault, cX6_fault, 1, (some .int))
theorem kX6_fault : ax_calV iX6_fault 0 := ⟨⟨ax_in 454 (by decide +kernel) rfl, ax_in 35 (by decide +kernel) rfl, ⟨by decide +kernel, by decide +kernel⟩, by decide +kernel, by decide, by decide +kernel⟩, ax_in 452 (by decide +kernel) rfl, ax_in 453 (by decide +kernel) rfl⟩
abbrev iX6_hour : ax_I := (yX6_hour, cX6_hour, 1, (some .int))
theorem kX6_hour : ax_calV iX6_hour 0 := ⟨⟨ax_in 458 (by decide +kernel) rfl, ax_in 35 (by decide +kernel) rfl, ⟨by decide +kernel, by decide +kernel⟩, by decide +kernel, by decide, by decide +kernel⟩, ax_in 456 (by decide +kernel) rfl, ax_in 457 (by decide +kernel) rfl⟩
abbrev iX0_keep : ax_I := (yX0_keep, cX0_keep, 3, none)
theorem kX0_keep : ax_calV iX0_keep 2 := ⟨⟨ax_in 463 (by decide +kernel) rfl, ax_in 38 (by decide +kernel) rfl, ⟨by decide +kernel, by decide +kernel⟩, by decide +kernel, by decide, by decide +kernel⟩, ax_in 461 (by decide +kernel) rfl, ax_in 462 (by decide +kernel) rfl⟩
abbrev iX3_goBy : ax_I := (yX3_goBy, cX3_goBy, 5, (some .int))
theorem kX3_goBy : ax_calV iX3_goBy 0 := ⟨⟨ax_in 468 (by decide +kernel) rfl, ax_in 37 (by decide +kernel) rfl, ⟨by decide +kernel, by decide +kernel⟩, by decide +kernel, by decide, by decide +kernel⟩, ax_in 466 (by decide +kernel) rfl, ax_in 467 (by decide +kernel) rfl⟩
abbrev iX6_isHour : ax_I := (yX6_isHour, cX6_isHour, 1, (some .boolean))
theorem kX6_isHour : ax_calS iX6_isHour 1 := ⟨⟨ax_in 471 (by decide +kernel) rfl, ax_in 35 (by decide +kernel) rfl, ⟨by decide +kernel, by decide +kernel⟩, by decide +kernel, by decide, by decide +kernel⟩, ax_in 470 (by decide +kernel) rfl⟩
abbrev iX3_standing : ax_I := (yX3_standing, cX3_standing, 3, (some .int))
theorem kX3_standing : ax_calV iX3_standing 0 := ⟨⟨ax_in 475 (by decide +kernel) rfl, ax_in 37 (by decide +kernel) rfl, ⟨by decide +kernel, by decide +kernel⟩, by decide +kernel, by decide, by decide +kernel⟩, ax_in 473 (by decide +kernel) rfl, ax_in 474 (by decide +kernel) rfl⟩
abbrev iX3_readyOf : ax_I := (yX3_readyOf, cX3_readyOf, 5, (some .int))
theorem kX3_readyOf : ax_calV iX3_readyOf 1 := ⟨⟨ax_in 479 (by decide +kernel) rfl, ax_in 37 (by decide +kernel) rfl, ⟨by decide +kernel, by decide +kernel⟩, by decide +kernel, by decide, by decide +kernel⟩, ax_in 477 (by decide +kernel) rfl, ax_in 478 (by decide +kernel) rfl⟩
abbrev iJ6_bitCount_0f7a4 : ax_I := (yJ6_bitCount_0f7a4, cJ6_bitCount_0f7a4, 1, (some .int))
theorem kJ6_bitCount_0f7a4 : ax_calS iJ6_bitCount_0f7a4 1 := ⟨⟨ax_in 482 (by decide +kernel) rfl, ax_in 50 (by decide +kernel) rfl, ⟨by decide +kernel, by decide +kernel⟩, by decide +kernel, by decide, by decide +kernel⟩, ax_in 481 (by decide +kernel) rfl⟩
abbrev iX3_isReady : ax_I := (yX3_isReady, cX3_isReady, 4, (some .boolean))
theorem kX3_isReady : ax_calV iX3_isReady 2 := ⟨⟨ax_in 489 (by decide +kernel) rfl, ax_in 37 (by decide +kernel) rfl, ⟨by decide +kernel, by decide +kernel⟩, by decide +kernel, by decide, by decide +kernel⟩, ax_in 487 (by decide +kernel) rfl, ax_in 488 (by decide +kernel) rfl⟩
abbrev iX3_followersOf : ax_I := (yX3_followersOf, cX3_followersOf, 4, (some .int))
theorem kX3_followersOf : ax_calV iX3_followersOf 1 := ⟨⟨ax_in 493 (by decide +kernel) rfl, ax_in 37 (by decide +kernel) rfl, ⟨by decide +kernel, by decide +kernel⟩, by decide +kernel, by decide, by decide +kernel⟩, ax_in 491 (by decide +kernel) rfl, ax_in 492 (by decide +kernel) rfl⟩
abbrev iX3_foremostOf : ax_I := (yX3_foremostOf, cX3_foremostOf, 5, (some .int))
theorem kX3_foremostOf : ax_calV iX3_foremostOf 1 := ⟨⟨ax_in 497 (by decide +kernel) rfl, ax_in 37 (by decide +kernel) rfl, ⟨by decide +kernel, by decide +kernel⟩, by decide +kernel, by decide, by decide +kernel⟩, ax_in 495 (by decide +kernel) rfl, ax_in 496 (by decide +kernel) rfl⟩
abbrev iX3_isAhead : ax_I := (yX3_isAhead, cX3_isAhead, 3, (some .boolean))
theorem kX3_isAhead : ax_calV iX3_isAhead 2 := ⟨⟨ax_in 501 (by decide +kernel) rfl, ax_in 37 (by decide +kernel) rfl, ⟨by decide +kernel, by decide +kernel⟩, by decide +kernel, by decide, by decide +kernel⟩, ax_in 499 (by decide +kernel) rfl, ax_in 500 (by decide +kernel) rfl⟩
abbrev iX3_tollFor : ax_I := (yX3_tollFor, cX3_tollFor, 2, (some .int))
theorem kX3_tollFor : ax_calV iX3_tollFor 1 := ⟨⟨ax_in 505 (by decide +kernel) rfl, ax_in 37 (by decide +kernel) rfl, ⟨by decide +kernel, by decide +kernel⟩, by decide +kernel, by decide, by decide +kernel⟩, ax_in 503 (by decide +kernel) rfl, ax_in 504 (by decide +kernel) rfl⟩
abbrev iX3_markGone : ax_I := (yX3_markGone, cX3_markGone, 3, none)
theorem kX3_markGone : ax_calV iX3_markGone 1 := ⟨⟨ax_in 509 (by decide +kernel) rfl, ax_in 37 (by decide +kernel) rfl, ⟨by decide +kernel, by decide +kernel⟩, by decide +kernel, by decide, by decide +kernel⟩, ax_in 507 (by decide +kernel) rfl, ax_in 508 (by decide +kernel) rfl⟩
abbrev iX6_waits : ax_I := (yX6_waits, cX6_waits, 4, (some .int))
theorem kX6_waits : ax_calV iX6_waits 2 := ⟨⟨ax_in 513 (by decide +kernel) rfl, ax_in 35 (by decide +kernel) rfl, ⟨by decide +kernel, by decide +kernel⟩, by decide +kernel, by decide, by decide +kernel⟩, ax_in 511 (by decide +kernel) rfl, ax_in 512 (by decide +kernel) rfl⟩
abbrev iX6_isCart : ax_I := (yX6_isCart, cX6_isCart, 2, (some .boolean))
theorem kX6_isCart : ax_calV iX6_isCart 1 := ⟨⟨ax_in 517 (by decide +kernel) rfl, ax_in 35 (by decide +kernel) rfl, ⟨by decide +kernel, by decide +kernel⟩, by decide +kernel, by decide, by decide +kernel⟩, ax_in 516 (by decide +kernel) rfl, ax_in 1 (by decide +kernel) rfl⟩
abbrev iX6_undo : ax_I := (yX6_undo, cX6_undo, 2, (some .int))
theorem kX6_undo : ax_calV iX6_undo 0 := ⟨⟨ax_in 522 (by decide +kernel) rfl, ax_in 35 (by decide +kernel) rfl, ⟨by decide +kernel, by decide +kernel⟩, by decide +kernel, by decide, by decide +kernel⟩, ax_in 520 (by decide +kernel) rfl, ax_in 521 (by decide +kernel) rfl⟩
abbrev iX3_goBack : ax_I := (yX3_goBack, cX3_goBack, 2, none)
theorem kX3_goBack : ax_calV iX3_goBack 0 := ⟨⟨ax_in 526 (by decide +kernel) rfl, ax_in 37 (by decide +kernel) rfl, ⟨by decide +kernel, by decide +kernel⟩, by decide +kernel, by decide, by decide +kernel⟩, ax_in 524 (by decide +kernel) rfl, ax_in 525 (by decide +kernel) rfl⟩
abbrev iX6_cart : ax_I := (yX6_cart, cX6_cart, 3, (some .int))
theorem kX6_cart : ax_calV iX6_cart 2 := ⟨⟨ax_in 530 (by decide +kernel) rfl, ax_in 35 (by decide +kernel) rfl, ⟨by decide +kernel, by decide +kernel⟩, by decide +kernel, by decide, by decide +kernel⟩, ax_in 528 (by decide +kernel) rfl, ax_in 529 (by decide +kernel) rfl⟩
abbrev iX3_costOf : ax_I := (yX3_costOf, cX3_costOf, 2, (some .int))
theorem kX3_costOf : ax_calV iX3_costOf 1 := ⟨⟨ax_in 534 (by decide +kernel) rfl, ax_in 37 (by decide +kernel) rfl, ⟨by decide +kernel, by decide +kernel⟩, by decide +kernel, by decide, by decide +kernel⟩, ax_in 532 (by decide +kernel) rfl, ax_in 533 (by decide +kernel) rfl⟩
abbrev iX6_day : ax_I := (yX6_day, cX6_day, 4, (some .int))
theorem kX6_day : ax_calV iX6_day 2 := ⟨⟨ax_in 538 (by decide +kernel) rfl, ax_in 35 (by decide +kernel) rfl, ⟨by decide +kernel, by decide +kernel⟩, by decide +kernel, by decide, by decide +kernel⟩, ax_in 536 (by decide +kernel) rfl, ax_in 537 (by decide +kernel) rfl⟩
abbrev iX2_dayOf : ax_I := (yX2_dayOf, cX2_dayOf, 2, (some (.object "FirstCart$Pass")))
theorem kX2_dayOf : ax_calV iX2_dayOf 1 := ⟨⟨ax_in 542 (by decide +kernel) rfl, ax_in 39 (by decide +kernel) rfl, ⟨by decide +kernel, by decide +kernel⟩, by decide +kernel, by decide, by decide +kernel⟩, ax_in 540 (by decide +kernel) rfl, ax_in 541 (by decide +kernel) rfl⟩
abbrev iX3_runDay : ax_I := (yX3_runDay, cX3_runDay, 4, none)
theorem kX3_runDay : ax_calV iX3_runDay 0 := ⟨⟨ax_in 547 (by decide +kernel) rfl, ax_in 37 (by decide +kernel) rfl, ⟨by decide +kernel, by decide +kernel⟩, by decide +kernel, by decide, by decide +kernel⟩, ax_in 545 (by decide +kernel) rfl, ax_in 546 (by decide +kernel) rfl⟩
abbrev iX6_judge : ax_I := (yX6_judge, cX6_judge, 6, (some .int))
theorem kX6_judge : ax_calV iX6_judge 2 := ⟨⟨ax_in 553 (by decide +kernel) rfl, ax_in 35 (by decide +kernel) rfl, ⟨by decide +kernel, by decide +kernel⟩, by decide +kernel, by decide, by decide +kernel⟩, ax_in 551 (by decide +kernel) rfl, ax_in 552 (by decide +kernel) rfl⟩
abbrev iX6_best : ax_I := (yX6_best, cX6_best, 4, (some .int))
theorem kX6_best : ax_calV iX6_best 2 := ⟨⟨ax_in 557 (by decide +kernel) rfl, ax_in 35 (by decide +kernel) rfl, ⟨by decide +kernel, by decide +kernel⟩, by decide +kernel, by decide, by decide +kernel⟩, ax_in 555 (by decide +kernel) rfl, ax_in 556 (by decide +kernel) rfl⟩
abbrev iX2_dayWithBest : ax_I := (yX2_dayWithBest, cX2_dayWithBest, 3, (some (.object "FirstCart$Pass")))
theorem kX2_dayWithBest : ax_calV iX2_dayWithBest 2 := ⟨⟨ax_in 561 (by decide +kernel) rfl, ax_in 39 (by decide +kernel) rfl, ⟨by decide +kernel, by decide +kernel⟩, by decide +kernel, by decide, by decide +kernel⟩, ax_in 559 (by decide +kernel) rfl, ax_in 560 (by decide +kernel) rfl⟩
abbrev iX2_takeBest : ax_I := (yX2_takeBest, cX2_takeBest, 7, (some .boolean))
theorem kX2_takeBest : ax_calV iX2_takeBest 1 := ⟨⟨ax_in 565 (by decide +kernel) rfl, ax_in 39 (by decide +kernel) rfl, ⟨by decide +kernel, by decide +kernel⟩, by decide +kernel, by decide, by decide +kernel⟩, ax_in 563 (by decide +kernel) rfl, ax_in 564 (by decide +kernel) rfl⟩
abbrev iX6_rest : ax_I := (yX6_rest, cX6_rest, 3, (some .int))
theorem kX6_rest : ax_calV iX6_rest 1 := ⟨⟨ax_in 571 (by decide +kernel) rfl, ax_in 35 (by decide +kernel) rfl, ⟨by decide +kernel, by decide +kernel⟩, by decide +kernel, by decide, by decide +kernel⟩, ax_in 569 (by decide +kernel) rfl, ax_in 570 (by decide +kernel) rfl⟩
abbrev iX2_roundsToRest : ax_I := (yX2_roundsToRest, cX2_roundsToRest, 5, (some .int))
theorem kX2_roundsToRest : ax_calV iX2_roundsToRest 1 := ⟨⟨ax_in 575 (by decide +kernel) rfl, ax_in 39 (by decide +kernel) rfl, ⟨by decide +kernel, by decide +kernel⟩, by decide +kernel, by decide, by decide +kernel⟩, ax_in 573 (by decide +kernel) rfl, ax_in 574 (by decide +kernel) rfl⟩
abbrev iX6_thought : ax_I := (yX6_thought, cX6_thought, 3, (some .int))
theorem kX6_thought : ax_calV iX6_thought 2 := ⟨⟨ax_in 580 (by decide +kernel) rfl, ax_in 35 (by decide +kernel) rfl, ⟨by decide +kernel, by decide +kernel⟩, by decide +kernel, by decide, by decide +kernel⟩, ax_in 578 (by decide +kernel) rfl, ax_in 579 (by decide +kernel) rfl⟩
abbrev iX2_patiencesToGoIn : ax_I := (yX2_patiencesToGoIn, cX2_patiencesToGoIn, 6, (some .int))
theorem kX2_patiencesToGoIn : ax_calV iX2_patiencesToGoIn 3 := ⟨⟨ax_in 585 (by decide +kernel) rfl, ax_in 39 (by decide +kernel) rfl, ⟨by decide +kernel, by decide +kernel⟩, by decide +kernel, by decide, by decide +kernel⟩, ax_in 583 (by decide +kernel) rfl, ax_in 584 (by decide +kernel) rfl⟩
abbrev iX6_two : ax_I := (yX6_two, cX6_two, 5, (some .int))
theorem kX6_two : ax_calV iX6_two 4 := ⟨⟨ax_in 589 (by decide +kernel) rfl, ax_in 35 (by decide +kernel) rfl, ⟨by decide +kernel, by decide +kernel⟩, by decide +kernel, by decide, by decide +kernel⟩, ax_in 587 (by decide +kernel) rfl, ax_in 588 (by decide +kernel) rfl⟩
abbrev iX2_whenOfTwo : ax_I := (yX2_whenOfTwo, cX2_whenOfTwo, 16, (some .int))
theorem kX2_whenOfTwo : ax_calV iX2_whenOfTwo 5 := ⟨⟨ax_in 593 (by decide +kernel) rfl, ax_in 39 (by decide +kernel) rfl, ⟨by decide +kernel, by decide +kernel⟩, by decide +kernel, by decide, by decide +kernel⟩, ax_in 591 (by decide +kernel) rfl, ax_in 592 (by decide +kernel) rfl⟩
abbrev iX6_shares : ax_I := (yX6_shares, cX6_shares, 3, (some .int))
theorem kX6_shares : ax_calV iX6_shares 2 := ⟨⟨ax_in 598 (by decide +kernel) rfl, ax_in 35 (by decide +kernel) rfl, ⟨by decide +kernel, by decide +kernel⟩, by decide +kernel, by decide, by decide +kernel⟩, ax_in 596 (by decide +kernel) rfl, ax_in 597 (by decide +kernel) rfl⟩
abbrev iX3_holds : ax_I := (yX3_holds, cX3_holds, 3, (some .boolean))
theorem kX3_holds : ax_calV iX3_holds 1 := ⟨⟨ax_in 602 (by decide +kernel) rfl, ax_in 37 (by decide +kernel) rfl, ⟨by decide +kernel, by decide +kernel⟩, by decide +kernel, by decide, by decide +kernel⟩, ax_in 600 (by decide +kernel) rfl, ax_in 601 (by decide +kernel) rfl⟩
abbrev iX3_greatestShares : ax_I := (yX3_greatestShares, cX3_greatestShares, 3, (some .int))
theorem kX3_greatestShares : ax_calV iX3_greatestShares 2 := ⟨⟨ax_in 606 (by decide +kernel) rfl, ax_in 37 (by decide +kernel) rfl, ⟨by decide +kernel, by decide +kernel⟩, by decide +kernel, by decide, by decide +kernel⟩, ax_in 604 (by decide +kernel) rfl, ax_in 605 (by decide +kernel) rfl⟩
abbrev iX6_size : ax_I := (yX6_size, cX6_size, 1, (some .int))
theorem kX6_size : ax_calV iX6_size 0 := ⟨⟨ax_in 611 (by decide +kernel) rfl, ax_in 35 (by decide +kernel) rfl, ⟨by decide +kernel, by decide +kernel⟩, by decide +kernel, by decide, by decide +kernel⟩, ax_in 609 (by decide +kernel) rfl, ax_in 610 (by decide +kernel) rfl⟩
abbrev iX3_cheapestSize : ax_I := (yX3_cheapestSize, cX3_cheapestSize, 3, (some .int))
theorem kX3_cheapestSize : ax_calV iX3_cheapestSize 0 := ⟨⟨ax_in 615 (by decide +kernel) rfl, ax_in 37 (by decide +kernel) rfl, ⟨by decide +kernel, by decide +kernel⟩, by decide +kernel, by decide, by decide +kernel⟩, ax_in 613 (by decide +kernel) rfl, ax_in 614 (by decide +kernel) rfl⟩
abbrev iX6_book : ax_I := (yX6_book, cX6_book, 3, (some .int))
theorem kX6_book : ax_calV iX6_book 2 := ⟨⟨ax_in 619 (by decide +kernel) rfl, ax_in 35 (by decide +kernel) rfl, ⟨by decide +kernel, by decide +kernel⟩, by decide +kernel, by decide, by decide +kernel⟩, ax_in 617 (by decide +kernel) rfl, ax_in 618 (by decide +kernel) rfl⟩
abbrev iX2_timesFirst : ax_I := (yX2_timesFirst, cX2_timesFirst, 6, (some .int))
theorem kX2_timesFirst : ax_calV iX2_timesFirst 3 := ⟨⟨ax_in 623 (by decide +kernel) rfl, ax_in 39 (by decide +kernel) rfl, ⟨by decide +kernel, by decide +kernel⟩, by decide +kernel, by decide, by decide +kernel⟩, ax_in 621 (by decide +kernel) rfl, ax_in 622 (by decide +kernel) rfl⟩
abbrev iX6_ford : ax_I := (yX6_ford, cX6_ford, 5, (some .int))
theorem kX6_ford : ax_calV iX6_ford 4 := ⟨⟨ax_in 627 (by decide +kernel) rfl, ax_in 35 (by decide +kernel) rfl, ⟨by decide +kernel, by decide +kernel⟩, by decide +kernel, by decide, by decide +kernel⟩, ax_in 625 (by decide +kernel) rfl, ax_in 626 (by decide +kernel) rfl⟩
abbrev iX2_costByFord : ax_I := (yX2_costByFord, cX2_costByFord, 10, (some .int))
theorem kX2_costByFord : ax_calV iX2_costByFord 5 := ⟨⟨ax_in 631 (by decide +kernel) rfl, ax_in 39 (by decide +kernel) rfl, ⟨by decide +kernel, by decide +kernel⟩, by decide +kernel, by decide, by decide +kernel⟩, ax_in 629 (by decide +kernel) rfl, ax_in 630 (by decide +kernel) rfl⟩
abbrev iX2_commonPart : ax_I := (yX2_commonPart, cX2_commonPart, 6, (some .int))
theorem kX2_commonPart : ax_calS iX2_commonPart 2 := ⟨⟨ax_in 635 (by decide +kernel) rfl, ax_in 39 (by decide +kernel) rfl, ⟨by decide +kernel, by decide +kernel⟩, by decide +kernel, by decide, by decide +kernel⟩, ax_in 634 (by decide +kernel) rfl⟩
abbrev iX6_goat : ax_I := (yX6_goat, cX6_goat, 3, (some .int))
theorem kX6_goat : ax_calV iX6_goat 2 := ⟨⟨ax_in 639 (by decide +kernel) rfl, ax_in 35 (by decide +kernel) rfl, ⟨by decide +kernel, by decide +kernel⟩, by decide +kernel, by decide, by decide +kernel⟩, ax_in 637 (by decide +kernel) rfl, ax_in 638 (by decide +kernel) rfl⟩
abbrev iX2_costOfGoat : ax_I := (yX2_costOfGoat, cX2_costOfGoat, 6, (some .int))
theorem kX2_costOfGoat : ax_calV iX2_costOfGoat 3 := ⟨⟨ax_in 643 (by decide +kernel) rfl, ax_in 39 (by decide +kernel) rfl, ⟨by decide +kernel, by decide +kernel⟩, by decide +kernel, by decide, by decide +kernel⟩, ax_in 641 (by decide +kernel) rfl, ax_in 642 (by decide +kernel) rfl⟩
abbrev iX6_image : ax_I := (yX6_image, cX6_image, 2, (some .int))
theorem kX6_image : ax_calV iX6_image 1 := ⟨⟨ax_in 648 (by decide +kernel) rfl, ax_in 35 (by decide +kernel) rfl, ⟨by decide +kernel, by decide +kernel⟩, by decide +kernel, by decide, by decide +kernel⟩, ax_in 646 (by decide +kernel) rfl, ax_in 647 (by decide +kernel) rfl⟩
abbrev iX6_restore : ax_I := (yX6_restore, cX6_restore, 2, (some .int))
theorem kX6_restore : ax_calV iX6_restore 1 := ⟨⟨ax_in 652 (by decide +kernel) rfl, ax_in 35 (by decide +kernel) rfl, ⟨by decide +kernel, by decide +kernel⟩, by decide +kernel, by decide, by decide +kernel⟩, ax_in 650 (by decide +kernel) rfl, ax_in 651 (by decide +kernel) rfl⟩
abbrev iX6_kind : ax_I := (yX6_kind, cX6_kind, 2, (some .int))
theorem kX6_kind : ax_calV iX6_kind 1 := ⟨⟨ax_in 656 (by decide +kernel) rfl, ax_in 35 (by decide +kernel) rfl, ⟨by decide +kernel, by decide +kernel⟩, by decide +kernel, by decide, by decide +kernel⟩, ax_in 654 (by decide +kernel) rfl, ax_in 655 (by decide +kernel) rfl⟩
abbrev iX6_as : ax_I := (yX6_as, cX6_as, 3, (some .int))
theorem kX6_as : ax_calV iX6_as 2 := ⟨⟨ax_in 660 (by decide +kernel) rfl, ax_in 35 (by decide +kernel) rfl, ⟨by decide +kernel, by decide +kernel⟩, by decide +kernel, by decide, by decide +kernel⟩, ax_in 658 (by decide +kernel) rfl, ax_in 659 (by decide +kernel) rfl⟩
abbrev iX6_isOfKind : ax_I := (yX6_isOfKind, cX6_isOfKind, 4, (some .boolean))
theorem kX6_isOfKind : ax_calS iX6_isOfKind 2 := ⟨⟨ax_in 663 (by decide +kernel) rfl, ax_in 35 (by decide +kernel) rfl, ⟨by decide +kernel, by decide +kernel⟩, by decide +kernel, by decide, by decide +kernel⟩, ax_in 662 (by decide +kernel) rfl⟩
abbrev iX6_ask : ax_I := (yX6_ask, cX6_ask, 3, (some .int))
theorem kX6_ask : ax_calV iX6_ask 2 := ⟨⟨ax_in 669 (by decide +kernel) rfl, ax_in 35 (by decide +kernel) rfl, ⟨by decide +kernel, by decide +kernel⟩, by decide +kernel, by decide, by decide +kernel⟩, ax_in 667 (by decide +kernel) rfl, ax_in 668 (by decide +kernel) rfl⟩
abbrev iX1_begin : ax_I := (yX1_begin, cX1_begin, 4, (some .int))
theorem kX1_begin : ax_calV iX1_begin 3 := ⟨⟨ax_in 677 (by decide +kernel) rfl, ax_in 40 (by decide +kernel) rfl, ⟨by decide +kernel, by decide +kernel⟩, by decide +kernel, by decide, by decide +kernel⟩, ax_in 675 (by decide +kernel) rfl, ax_in 676 (by decide +kernel) rfl⟩
abbrev iX6_bodyFor : ax_I := (yX6_bodyFor, cX6_bodyFor, 4, (some .int))
theorem kX6_bodyFor : ax_calS iX6_bodyFor 2 := ⟨⟨ax_in 680 (by decide +kernel) rfl, ax_in 35 (by decide +kernel) rfl, ⟨by decide +kernel, by decide +kernel⟩, by decide +kernel, by decide, by decide +kernel⟩, ax_in 679 (by decide +kernel) rfl⟩
abbrev iX1_answer : ax_I := (yX1_answer, cX1_answer, 7, (some .int))
theorem kX1_answer : ax_calV iX1_answer 4 := ⟨⟨ax_in 684 (by decide +kernel) rfl, ax_in 40 (by decide +kernel) rfl, ⟨by decide +kernel, by decide +kernel⟩, by decide +kernel, by decide, by decide +kernel⟩, ax_in 683 (by decide +kernel) rfl, ax_in 2 (by decide +kernel) rfl⟩
abbrev iX6_trace : ax_I := (yX6_trace, cX6_trace, 2, (some .int))
theorem kX6_trace : ax_calV iX6_trace 1 := ⟨⟨ax_in 690 (by decide +kernel) rfl, ax_in 35 (by decide +kernel) rfl, ⟨by decide +kernel, by decide +kernel⟩, by decide +kernel, by decide, by decide +kernel⟩, ax_in 688 (by decide +kernel) rfl, ax_in 689 (by decide +kernel) rfl⟩
abbrev iX6_count : ax_I := (yX6_count, cX6_count, 2, (some .int))
theorem kX6_count : ax_calV iX6_count 1 := ⟨⟨ax_in 694 (by decide +kernel) rfl, ax_in 35 (by decide +kernel) rfl, ⟨by decide +kernel, by decide +kernel⟩, by decide +kernel, by decide, by decide +kernel⟩, ax_in 692 (by decide +kernel) rfl, ax_in 693 (by decide +kernel) rfl⟩
abbrev iX6_rowsThere : ax_I := (yX6_rowsThere, cX6_rowsThere, 3, (some .int))
theorem kX6_rowsThere : ax_calV iX6_rowsThere 0 := ⟨⟨ax_in 698 (by decide +kernel) rfl, ax_in 35 (by decide +kernel) rfl, ⟨by decide +kernel, by decide +kernel⟩, by decide +kernel, by decide, by decide +kernel⟩, ax_in 697 (by decide +kernel) rfl, ax_in 3 (by decide +kernel) rfl⟩
abbrev iX3_cartsGone : ax_I := (yX3_cartsGone, cX3_cartsGone, 3, (some .int))
theorem kX3_cartsGone : ax_calV iX3_cartsGone 0 := ⟨⟨ax_in 702 (by decide +kernel) rfl, ax_in 37 (by decide +kernel) rfl, ⟨by decide +kernel, by decide +kernel⟩, by decide +kernel, by decide, by decide +kernel⟩, ax_in 700 (by decide +kernel) rfl, ax_in 701 (by decide +kernel) rfl⟩
abbrev iX3_paidInAll : ax_I := (yX3_paidInAll, cX3_paidInAll, 3, (some .int))
theorem kX3_paidInAll : ax_calV iX3_paidInAll 0 := ⟨⟨ax_in 706 (by decide +kernel) rfl, ax_in 37 (by decide +kernel) rfl, ⟨by decide +kernel, by decide +kernel⟩, by decide +kernel, by decide, by decide +kernel⟩, ax_in 704 (by decide +kernel) rfl, ax_in 705 (by decide +kernel) rfl⟩
abbrev iX6_status : ax_I := (yX6_status, cX6_status, 1, (some .int))
theorem kX6_status : ax_calV iX6_status 0 := ⟨⟨ax_in 710 (by decide +kernel) rfl, ax_in 35 (by decide +kernel) rfl, ⟨by decide +kernel, by decide +kernel⟩, by decide +kernel, by decide, by decide +kernel⟩, ax_in 708 (by decide +kernel) rfl, ax_in 709 (by decide +kernel) rfl⟩
abbrev iX7_init : ax_I := (yX7_init, cX7_init, 1, none)
theorem kX7_init : ax_cal iX7_init 0 := ⟨ax_in 715 (by decide +kernel) rfl, ax_in 42 (by decide +kernel) rfl, ⟨by decide +kernel, by decide +kernel⟩, by decide +kernel, by decide, by decide +kernel⟩
theorem nX7_init : Cond.instanceMethod yX7_init ∈ ax_tb := ax_in 714 (by decide +kernel) rfl
abbrev iX7_row : ax_I := (yX7_row, cX7_row, 5, (some .int))
theorem kX7_row : ax_calV iX7_row 3 := ⟨⟨ax_in 827 (by decide +kernel) rfl, ax_in 42 (by decide +kernel) rfl, ⟨by decide +kernel, by decide +kernel⟩, by decide +kernel, by decide, by decide +kernel⟩, ax_in 825 (by decide +kernel) rfl, ax_in 826 (by decide +kernel) rfl⟩
abbrev iX7_isRow : ax_I := (yX7_isRow, cX7_isRow, 1, (some .boolean))
theorem kX7_isRow : ax_calS iX7_isRow 1 := ⟨⟨ax_in 830 (by decide +kernel) rfl, ax_in 42 (by decide +kernel) rfl, ⟨by decide +kernel, by decide +kernel⟩, by decide +kernel, by decide, by decide +kernel⟩, ax_in 829 (by decide +kernel) rfl⟩
abbrev iX7_in : ax_I := (yX7_in, cX7_in, 6, (some .boolean))
theorem kX7_in : ax_calS iX7_in 3 := ⟨⟨ax_in 834 (by decide +kernel) rfl, ax_in 42 (by decide +kernel) rfl, ⟨by decide +kernel, by decide +kernel⟩, by decide +kernel, by decide, by decide +kernel⟩, ax_in 833 (by decide +kernel) rfl⟩
abbrev iX7_finding : ax_I := (yX7_finding, cX7_finding, 2, (some .int))
theorem kX7_finding : ax_calV iX7_finding 1 := ⟨⟨ax_in 840 (by decide +kernel) rfl, ax_in 42 (by decide +kernel) rfl, ⟨by decide +kernel, by decide +kernel⟩, by decide +kernel, by decide, by decide +kernel⟩, ax_in 839 (by decide +kernel) rfl, ax_in 4 (by decide +kernel) rfl⟩
abbrev iX7_set : ax_I := (yX7_set, cX7_set, 4, (some .int))
theorem kX7_set : ax_calV iX7_set 3 := ⟨⟨ax_in 845 (by decide +kernel) rfl, ax_in 42 (by decide +kernel) rfl, ⟨by decide +kernel, by decide +kernel⟩, by decide +kernel, by decide, by decide +kernel⟩, ax_in 843 (by decide +kernel) rfl, ax_in 844 (by decide +kernel) rfl⟩
abbrev iX7_copy : ax_I := (yX7_copy, cX7_copy, 9, (some .int))
theorem kX7_copy : ax_calV iX7_copy 5 := ⟨⟨ax_in 849 (by decide +kernel) rfl, ax_in 42 (by decide +kernel) rfl, ⟨by decide +kernel, by decide +kernel⟩, by decide +kernel, by decide, by decide +kernel⟩, ax_in 847 (by decide +kernel) rfl, ax_in 848 (by decide +kernel) rfl⟩
abbrev iX7_drop : ax_I := (yX7_drop, cX7_drop, 2, (some .int))
theorem kX7_drop : ax_calV iX7_drop 1 := ⟨⟨ax_in 853 (by decide +kernel) rfl, ax_in 42 (by decide +kernel) rfl, ⟨by decide +kernel, by decide +kernel⟩, by decide +kernel, by decide, by decide +kernel⟩, ax_in 851 (by decide +kernel) rfl, ax_in 852 (by decide +kernel) rfl⟩
abbrev iX7_feed : ax_I := (yX7_feed, cX7_feed, 5, (some .int))
theorem kX7_feed : ax_calV iX7_feed 2 := ⟨⟨ax_in 857 (by decide +kernel) rfl, ax_in 42 (by decide +kernel) rfl, ⟨by decide +kernel, by decide +kernel⟩, by decide +kernel, by decide, by decide +kernel⟩, ax_in 855 (by decide +kernel) rfl, ax_in 856 (by decide +kernel) rfl⟩
abbrev iX7_pass : ax_I := (yX7_pass, cX7_pass, 2, (some .int))
theorem kX7_pass : ax_calV iX7_pass 0 := ⟨⟨ax_in 864 (by decide +kernel) rfl, ax_in 42 (by decide +kernel) rfl, ⟨by decide +kernel, by decide +kernel⟩, by decide +kernel, by decide, by decide +kernel⟩, ax_in 862 (by decide +kernel) rfl, ax_in 863 (by decide +kernel) rfl⟩
abbrev iX7_begin : ax_I := (yX7_begin, cX7_begin, 1, none)
theorem kX7_begin : ax_calV iX7_begin 0 := ⟨⟨ax_in 868 (by decide +kernel) rfl, ax_in 42 (by decide +kernel) rfl, ⟨by decide +kernel, by decide +kernel⟩, by decide +kernel, by decide, by decide +kernel⟩, ax_in 867 (by decide +kernel) rfl, ax_in 5 (by decide +kernel) rfl⟩
abbrev iX7_next : ax_I := (yX7_next, cX7_next, 2, none)
theorem kX7_next : ax_calV iX7_next 0 := ⟨⟨ax_in 872 (by decide +kernel) rfl, ax_in 42 (by decide +kernel) rfl, ⟨by decide +kernel, by decide +kernel⟩, by decide +kernel, by decide, by decide +kernel⟩, ax_in 871 (by decide +kernel) rfl, ax_in 6 (by decide +kernel) rfl⟩
abbrev iX7_byteAt : ax_I := (yX7_byteAt, cX7_byteAt, 2, (some .int))
theorem kX7_byteAt : ax_calV iX7_byteAt 1 := ⟨⟨ax_in 876 (by decide +kernel) rfl, ax_in 42 (by decide +kernel) rfl, ⟨by decide +kernel, by decide +kernel⟩, by decide +kernel, by decide, by decide +kernel⟩, ax_in 875 (by decide +kernel) rfl, ax_in 7 (by decide +kernel) rfl⟩
abbrev iX7_isLetter : ax_I := (yX7_isLetter, cX7_isLetter, 1, (some .boolean))
theorem kX7_isLetter : ax_calS iX7_isLetter 1 := ⟨⟨ax_in 880 (by decide +kernel) rfl, ax_in 42 (by decide +kernel) rfl, ⟨by decide +kernel, by decide +kernel⟩, by decide +kernel, by decide, by decide +kernel⟩, ax_in 879 (by decide +kernel) rfl⟩
abbrev iX7_isFigure : ax_I := (yX7_isFigure, cX7_isFigure, 1, (some .boolean))
theorem kX7_isFigure : ax_calS iX7_isFigure 1 := ⟨⟨ax_in 883 (by decide +kernel) rfl, ax_in 42 (by decide +kernel) rfl, ⟨by decide +kernel, by decide +kernel⟩, by decide +kernel, by decide, by decide +kernel⟩, ax_in 882 (by decide +kernel) rfl⟩
abbrev iX7_readToll : ax_I := (yX7_readToll, cX7_readToll, 2, none)
theorem kX7_readToll : ax_calV iX7_readToll 0 := ⟨⟨ax_in 887 (by decide +kernel) rfl, ax_in 42 (by decide +kernel) rfl, ⟨by decide +kernel, by decide +kernel⟩, by decide +kernel, by decide, by decide +kernel⟩, ax_in 886 (by decide +kernel) rfl, ax_in 8 (by decide +kernel) rfl⟩
abbrev iX7_name : ax_I := (yX7_name, cX7_name, 4, (some .long))
theorem kX7_name : ax_calV iX7_name 0 := ⟨⟨ax_in 891 (by decide +kernel) rfl, ax_in 42 (by decide +kernel) rfl, ⟨by decide +kernel, by decide +kernel⟩, by decide +kernel, by decide, by decide +kernel⟩, ax_in 890 (by decide +kernel) rfl, ax_in 9 (by decide +kernel) rfl⟩
abbrev iX7_must : ax_I := (yX7_must, cX7_must, 2, none)
theorem kX7_must : ax_calV iX7_must 1 := ⟨⟨ax_in 896 (by decide +kernel) rfl, ax_in 42 (by decide +kernel) rfl, ⟨by decide +kernel, by decide +kernel⟩, by decide +kernel, by decide, by decide +kernel⟩, ax_in 895 (by decide +kernel) rfl, ax_in 10 (by decide +kernel) rfl⟩
abbrev iX7_bad : ax_I := (yX7_bad, cX7_bad, 2, none)
theorem kX7_bad : ax_calV iX7_bad 1 := ⟨⟨ax_in 900 (by decide +kernel) rfl, ax_in 42 (by decide +kernel) rfl, ⟨by decide +kernel, by decide +kernel⟩, by decide +kernel, by decide, by decide +kernel⟩, ax_in 899 (by decide +kernel) rfl, ax_in 11 (by decide +kernel) rfl⟩
abbrev iX7_number : ax_I := (yX7_number, cX7_number, 4, (some .int))
theorem kX7_number : ax_calV iX7_number 2 := ⟨⟨ax_in 904 (by decide +kernel) rfl, ax_in 42 (by decide +kernel) rfl, ⟨by decide +kernel, by decide +kernel⟩, by decide +kernel, by decide, by decide +kernel⟩, ax_in 903 (by decide +kernel) rfl, ax_in 12 (by decide +kernel) rfl⟩
abbrev iX7_figures : ax_I := (yX7_figures, cX7_figures, 3, (some .int))
theorem kX7_figures : ax_calV iX7_figures 0 := ⟨⟨ax_in 908 (by decide +kernel) rfl, ax_in 42 (by decide +kernel) rfl, ⟨by decide +kernel, by decide +kernel⟩, by decide +kernel, by decide, by decide +kernel⟩, ax_in 907 (by decide +kernel) rfl, ax_in 13 (by decide +kernel) rfl⟩
abbrev iX7_mustEnd : ax_I := (yX7_mustEnd, cX7_mustEnd, 1, none)
theorem kX7_mustEnd : ax_calV iX7_mustEnd 0 := ⟨⟨ax_in 912 (by decide +kernel) rfl, ax_in 42 (by decide +kernel) rfl, ⟨by decide +kernel, by decide +kernel⟩, by decide +kernel, by decide, by decide +kernel⟩, ax_in 911 (by decide +kernel) rfl, ax_in 14 (by decide +kernel) rfl⟩
abbrev iX7_readCart : ax_I := (yX7_readCart, cX7_readCart, 6, none)
theorem kX7_readCart : ax_calV iX7_readCart 0 := ⟨⟨ax_in 917 (by decide +kernel) rfl, ax_in 42 (by decide +kernel) rfl, ⟨by decide +kernel, by decide +kernel⟩, by decide +kernel, by decide, by decide +kernel⟩, ax_in 916 (by decide +kernel) rfl, ax_in 15 (by decide +kernel) rfl⟩
abbrev iX7_kindBy : ax_I := (yX7_kindBy, cX7_kindBy, 2, (some .int))
theorem kX7_kindBy : ax_calS iX7_kindBy 1 := ⟨⟨ax_in 920 (by decide +kernel) rfl, ax_in 42 (by decide +kernel) rfl, ⟨by decide +kernel, by decide +kernel⟩, by decide +kernel, by decide, by decide +kernel⟩, ax_in 919 (by decide +kernel) rfl⟩
abbrev iX7_fault : ax_I := (yX7_fault, cX7_fault, 1, (some .int))
theorem kX7_fault : ax_calV iX7_fault 0 := ⟨⟨ax_in 930 (by decide +kernel) rfl, ax_in 42 (by decide +kernel) rfl, ⟨by decide +kernel, by decide +kernel⟩, by decide +kernel, by decide, by decide +kernel⟩, ax_in 928 (by decide +kernel) rfl, ax_in 929 (by decide +kernel) rfl⟩
abbrev iX7_hour : ax_I := (yX7_hour, cX7_hour, 3, (some .int))
theorem kX7_hour : ax_calV iX7_hour 0 := ⟨⟨ax_in 934 (by decide +kernel) rfl, ax_in 42 (by decide +kernel) rfl, ⟨by decide +kernel, by decide +kernel⟩, by decide +kernel, by decide, by decide +kernel⟩, ax_in 932 (by decide +kernel) rfl, ax_in 933 (by decide +kernel) rfl⟩
abbrev iX7_keep : ax_I := (yX7_keep, cX7_keep, 2, none)
theorem kX7_keep : ax_calV iX7_keep 0 := ⟨⟨ax_in 939 (by decide +kernel) rfl, ax_in 42 (by decide +kernel) rfl, ⟨by decide +kernel, by decide +kernel⟩, by decide +kernel, by decide, by decide +kernel⟩, ax_in 938 (by decide +kernel) rfl, ax_in 16 (by decide +kernel) rfl⟩
abbrev iX7_layNow : ax_I := (yX7_layNow, cX7_layNow, 2, none)
theorem kX7_layNow : ax_calV iX7_layNow 0 := ⟨⟨ax_in 943 (by decide +kernel) rfl, ax_in 42 (by decide +kernel) rfl, ⟨by decide +kernel, by decide +kernel⟩, by decide +kernel, by decide, by decide +kernel⟩, ax_in 942 (by decide +kernel) rfl, ax_in 17 (by decide +kernel) rfl⟩
abbrev iX7_of : ax_I := (yX7_of, cX7_of, 3, (some .int))
theorem kX7_of : ax_calV iX7_of 2 := ⟨⟨ax_in 947 (by decide +kernel) rfl, ax_in 42 (by decide +kernel) rfl, ⟨by decide +kernel, by decide +kernel⟩, by decide +kernel, by decide, by decide +kernel⟩, ax_in 946 (by decide +kernel) rfl, ax_in 18 (by decide +kernel) rfl⟩
abbrev iX7_goHour : ax_I := (yX7_goHour, cX7_goHour, 6, (some .int))
theorem kX7_goHour : ax_calV iX7_goHour 1 := ⟨⟨ax_in 951 (by decide +kernel) rfl, ax_in 42 (by decide +kernel) rfl, ⟨by decide +kernel, by decide +kernel⟩, by decide +kernel, by decide, by decide +kernel⟩, ax_in 950 (by decide +kernel) rfl, ax_in 19 (by decide +kernel) rfl⟩
abbrev iX7_isReady : ax_I := (yX7_isReady, cX7_isReady, 4, (some .boolean))
theorem kX7_isReady : ax_calV iX7_isReady 2 := ⟨⟨ax_in 955 (by decide +kernel) rfl, ax_in 42 (by decide +kernel) rfl, ⟨by decide +kernel, by decide +kernel⟩, by decide +kernel, by decide, by decide +kernel⟩, ax_in 954 (by decide +kernel) rfl, ax_in 20 (by decide +kernel) rfl⟩
abbrev iX7_stands : ax_I := (yX7_stands, cX7_stands, 3, (some .boolean))
theorem kX7_stands : ax_calV iX7_stands 2 := ⟨⟨ax_in 959 (by decide +kernel) rfl, ax_in 42 (by decide +kernel) rfl, ⟨by decide +kernel, by decide +kernel⟩, by decide +kernel, by decide, by decide +kernel⟩, ax_in 958 (by decide +kernel) rfl, ax_in 21 (by decide +kernel) rfl⟩
abbrev iX7_standing : ax_I := (yX7_standing, cX7_standing, 4, (some .int))
theorem kX7_standing : ax_calV iX7_standing 1 := ⟨⟨ax_in 963 (by decide +kernel) rfl, ax_in 42 (by decide +kernel) rfl, ⟨by decide +kernel, by decide +kernel⟩, by decide +kernel, by decide, by decide +kernel⟩, ax_in 962 (by decide +kernel) rfl, ax_in 22 (by decide +kernel) rfl⟩
abbrev iX7_isAhead : ax_I := (yX7_isAhead, cX7_isAhead, 3, (some .boolean))
theorem kX7_isAhead : ax_calV iX7_isAhead 2 := ⟨⟨ax_in 967 (by decide +kernel) rfl, ax_in 42 (by decide +kernel) rfl, ⟨by decide +kernel, by decide +kernel⟩, by decide +kernel, by decide, by decide +kernel⟩, ax_in 966 (by decide +kernel) rfl, ax_in 23 (by decide +kernel) rfl⟩
abbrev iX7_tollFor : ax_I := (yX7_tollFor, cX7_tollFor, 2, (some .int))
theorem kX7_tollFor : ax_calV iX7_tollFor 1 := ⟨⟨ax_in 971 (by decide +kernel) rfl, ax_in 42 (by decide +kernel) rfl, ⟨by decide +kernel, by decide +kernel⟩, by decide +kernel, by decide, by decide +kernel⟩, ax_in 970 (by decide +kernel) rfl, ax_in 24 (by decide +kernel) rfl⟩
abbrev iX7_waits : ax_I := (yX7_waits, cX7_waits, 4, (some .int))
theorem kX7_waits : ax_calV iX7_waits 2 := ⟨⟨ax_in 975 (by decide +kernel) rfl, ax_in 42 (by decide +kernel) rfl, ⟨by decide +kernel, by decide +kernel⟩, by decide +kernel, by decide, by decide +kernel⟩, ax_in 973 (by decide +kernel) rfl, ax_in 974 (by decide +kernel) rfl⟩
abbrev iX7_isCart : ax_I := (yX7_isCart, cX7_isCart, 2, (some .boolean))
theorem kX7_isCart : ax_calV iX7_isCart 1 := ⟨⟨ax_in 979 (by decide +kernel) rfl, ax_in 42 (by decide +kernel) rfl, ⟨by decide +kernel, by decide +kernel⟩, by decide +kernel, by decide, by decide +kernel⟩, ax_in 978 (by decide +kernel) rfl, ax_in 25 (by decide +kernel) rfl⟩
abbrev iX7_undo : ax_I := (yX7_undo, cX7_undo, 2, (some .int))
theorem kX7_undo : ax_calV iX7_undo 0 := ⟨⟨ax_in 984 (by decide +kernel) rfl, ax_in 42 (by decide +kernel) rfl, ⟨by decide +kernel, by decide +kernel⟩, by decide +kernel, by decide, by decide +kernel⟩, ax_in 982 (by decide +kernel) rfl, ax_in 983 (by decide +kernel) rfl⟩
abbrev iX7_cart : ax_I := (yX7_cart, cX7_cart, 3, (some .int))
theorem kX7_cart : ax_calV iX7_cart 2 := ⟨⟨ax_in 988 (by decide +kernel) rfl, ax_in 42 (by decide +kernel) rfl, ⟨by decide +kernel, by decide +kernel⟩, by decide +kernel, by decide, by decide +kernel⟩, ax_in 986 (by decide +kernel) rfl, ax_in 987 (by decide +kernel) rfl⟩
abbrev iX7_costOf : ax_I := (yX7_costOf, cX7_costOf, 2, (some .int))
theorem kX7_costOf : ax_calV iX7_costOf 1 := ⟨⟨ax_in 993 (by decide +kernel) rfl, ax_in 42 (by decide +kernel) rfl, ⟨by decide +kernel, by decide +kernel⟩, by decide +kernel, by decide, by decide +kernel⟩, ax_in 992 (by decide +kernel) rfl, ax_in 26 (by decide +kernel) rfl⟩
abbrev iX7_day : ax_I := (yX7_day, cX7_day, 3, (some .int))
theorem kX7_day : ax_calV iX7_day 2 := ⟨⟨ax_in 997 (by decide +kernel) rfl, ax_in 42 (by decide +kernel) rfl, ⟨by decide +kernel, by decide +kernel⟩, by decide +kernel, by decide, by decide +kernel⟩, ax_in 995 (by decide +kernel) rfl, ax_in 996 (by decide +kernel) rfl⟩
abbrev iX7_goDay : ax_I := (yX7_goDay, cX7_goDay, 3, none)
theorem kX7_goDay : ax_calV iX7_goDay 0 := ⟨⟨ax_in 1001 (by decide +kernel) rfl, ax_in 42 (by decide +kernel) rfl, ⟨by decide +kernel, by decide +kernel⟩, by decide +kernel, by decide, by decide +kernel⟩, ax_in 1000 (by decide +kernel) rfl, ax_in 27 (by decide +kernel) rfl⟩
abbrev iX7_judge : ax_I := (yX7_judge, cX7_judge, 5, (some .int))
theorem kX7_judge : ax_calV iX7_judge 2 := ⟨⟨ax_in 1005 (by decide +kernel) rfl, ax_in 42 (by decide +kernel) rfl, ⟨by decide +kernel, by decide +kernel⟩, by decide +kernel, by decide, by decide +kernel⟩, ax_in 1003 (by decide +kernel) rfl, ax_in 1004 (by decide +kernel) rfl⟩
abbrev iX7_best : ax_I := (yX7_best, cX7_best, 4, (some .int))
theorem kX7_best : ax_calV iX7_best 2 := ⟨⟨ax_in 1011 (by decide +kernel) rfl, ax_in 42 (by decide +kernel) rfl, ⟨by decide +kernel, by decide +kernel⟩, by decide +kernel, by decide, by decide +kernel⟩, ax_in 1009 (by decide +kernel) rfl, ax_in 1010 (by decide +kernel) rfl⟩
abbrev iX7_bestOf : ax_I := (yX7_bestOf, cX7_bestOf, 6, (some .int))
theorem kX7_bestOf : ax_calV iX7_bestOf 1 := ⟨⟨ax_in 1015 (by decide +kernel) rfl, ax_in 42 (by decide +kernel) rfl, ⟨by decide +kernel, by decide +kernel⟩, by decide +kernel, by decide, by decide +kernel⟩, ax_in 1014 (by decide +kernel) rfl, ax_in 28 (by decide +kernel) rfl⟩
abbrev iX7_rest : ax_I := (yX7_rest, cX7_rest, 7, (some .int))
theorem kX7_rest : ax_calV iX7_rest 1 := ⟨⟨ax_in 1019 (by decide +kernel) rfl, ax_in 42 (by decide +kernel) rfl, ⟨by decide +kernel, by decide +kernel⟩, by decide +kernel, by decide, by decide +kernel⟩, ax_in 1017 (by decide +kernel) rfl, ax_in 1018 (by decide +kernel) rfl⟩
abbrev iX7_thought : ax_I := (yX7_thought, cX7_thought, 5, (some .int))
theorem kX7_thought : ax_calV iX7_thought 2 := ⟨⟨ax_in 1023 (by decide +kernel) rfl, ax_in 42 (by decide +kernel) rfl, ⟨by decide +kernel, by decide +kernel⟩, by decide +kernel, by decide, by decide +kernel⟩, ax_in 1021 (by decide +kernel) rfl, ax_in 1022 (by decide +kernel) rfl⟩
abbrev iX7_isHour : ax_I := (yX7_isHour, cX7_isHour, 1, (some .boolean))
theorem kX7_isHour : ax_calS iX7_isHour 1 := ⟨⟨ax_in 1026 (by decide +kernel) rfl, ax_in 42 (by decide +kernel) rfl, ⟨by decide +kernel, by decide +kernel⟩, by decide +kernel, by decide, by decide +kernel⟩, ax_in 1025 (by decide +kernel) rfl⟩
abbrev iX7_two : ax_I := (yX7_two, cX7_two, 15, (some .int))
theorem kX7_two : ax_calV iX7_two 4 := ⟨⟨ax_in 1030 (by decide +kernel) rfl, ax_in 42 (by decide +kernel) rfl, ⟨by decide +kernel, by decide +kernel⟩, by decide +kernel, by decide, by decide +kernel⟩, ax_in 1028 (by decide +kernel) rfl, ax_in 1029 (by decide +kernel) rfl⟩
abbrev iX7_shares : ax_I := (yX7_shares, cX7_shares, 7, (some .int))
theorem kX7_shares : ax_calV iX7_shares 2 := ⟨⟨ax_in 1034 (by decide +kernel) rfl, ax_in 42 (by decide +kernel) rfl, ⟨by decide +kernel, by decide +kernel⟩, by decide +kernel, by decide, by decide +kernel⟩, ax_in 1032 (by decide +kernel) rfl, ax_in 1033 (by decide +kernel) rfl⟩
abbrev iX7_part : ax_I := (yX7_part, cX7_part, 3, (some .int))
theorem kX7_part : ax_calS iX7_part 3 := ⟨⟨ax_in 1038 (by decide +kernel) rfl, ax_in 42 (by decide +kernel) rfl, ⟨by decide +kernel, by decide +kernel⟩, by decide +kernel, by decide, by decide +kernel⟩, ax_in 1037 (by decide +kernel) rfl⟩
abbrev iX7_size : ax_I := (yX7_size, cX7_size, 3, (some .int))
theorem kX7_size : ax_calV iX7_size 0 := ⟨⟨ax_in 1042 (by decide +kernel) rfl, ax_in 42 (by decide +kernel) rfl, ⟨by decide +kernel, by decide +kernel⟩, by decide +kernel, by decide, by decide +kernel⟩, ax_in 1040 (by decide +kernel) rfl, ax_in 1041 (by decide +kernel) rfl⟩
abbrev iX7_book : ax_I := (yX7_book, cX7_book, 4, (some .int))
theorem kX7_book : ax_calV iX7_book 2 := ⟨⟨ax_in 1046 (by decide +kernel) rfl, ax_in 42 (by decide +kernel) rfl, ⟨by decide +kernel, by decide +kernel⟩, by decide +kernel, by decide, by decide +kernel⟩, ax_in 1044 (by decide +kernel) rfl, ax_in 1045 (by decide +kernel) rfl⟩
abbrev iX7_ford : ax_I := (yX7_ford, cX7_ford, 10, (some .int))
theorem kX7_ford : ax_calV iX7_ford 4 := ⟨⟨ax_in 1051 (by decide +kernel) rfl, ax_in 42 (by decide +kernel) rfl, ⟨by decide +kernel, by decide +kernel⟩, by decide +kernel, by decide, by decide +kernel⟩, ax_in 1049 (by decide +kernel) rfl, ax_in 1050 (by decide +kernel) rfl⟩
abbrev iX7_goat : ax_I := (yX7_goat, cX7_goat, 5, (some .int))
theorem kX7_goat : ax_calV iX7_goat 2 := ⟨⟨ax_in 1057 (by decide +kernel) rfl, ax_in 42 (by decide +kernel) rfl, ⟨by decide +kernel, by decide +kernel⟩, by decide +kernel, by decide, by decide +kernel⟩, ax_in 1055 (by decide +kernel) rfl, ax_in 1056 (by decide +kernel) rfl⟩
abbrev iX7_image : ax_I := (yX7_image, cX7_image, 3, (some .int))
theorem kX7_image : ax_calV iX7_image 1 := ⟨⟨ax_in 1061 (by decide +kernel) rfl, ax_in 42 (by decide +kernel) rfl, ⟨by decide +kernel, by decide +kernel⟩, by decide +kernel, by decide, by decide +kernel⟩, ax_in 1059 (by decide +kernel) rfl, ax_in 1060 (by decide +kernel) rfl⟩
abbrev iX7_restore : ax_I := (yX7_restore, cX7_restore, 3, (some .int))
theorem kX7_restore : ax_calV iX7_restore 1 := ⟨⟨ax_in 1065 (by decide +kernel) rfl, ax_in 42 (by decide +kernel) rfl, ⟨by decide +kernel, by decide +kernel⟩, by decide +kernel, by decide, by decide +kernel⟩, ax_in 1063 (by decide +kernel) rfl, ax_in 1064 (by decide +kernel) rfl⟩
abbrev iX7_kind : ax_I := (yX7_kind, cX7_kind, 2, (some .int))
theorem kX7_kind : ax_calV iX7_kind 1 := ⟨⟨ax_in 1069 (by decide +kernel) rfl, ax_in 42 (by decide +kernel) rfl, ⟨by decide +kernel, by decide +kernel⟩, by decide +kernel, by decide, by decide +kernel⟩, ax_in 1067 (by decide +kernel) rfl, ax_in 1068 (by decide +kernel) rfl⟩
abbrev iX7_as : ax_I := (yX7_as, cX7_as, 3, (some .int))
theorem kX7_as : ax_calV iX7_as 2 := ⟨⟨ax_in 1073 (by decide +kernel) rfl, ax_in 42 (by decide +kernel) rfl, ⟨by decide +kernel, by decide +kernel⟩, by decide +kernel, by decide, by decide +kernel⟩, ax_in 1071 (by decide +kernel) rfl, ax_in 1072 (by decide +kernel) rfl⟩
abbrev iX7_isOf : ax_I := (yX7_isOf, cX7_isOf, 2, (some .boolean))
theorem kX7_isOf : ax_calS iX7_isOf 2 := ⟨⟨ax_in 1076 (by decide +kernel) rfl, ax_in 42 (by decide +kernel) rfl, ⟨by decide +kernel, by decide +kernel⟩, by decide +kernel, by decide, by decide +kernel⟩, ax_in 1075 (by decide +kernel) rfl⟩
abbrev iX7_ask : ax_I := (yX7_ask, cX7_ask, 3, (some .int))
theorem kX7_ask : ax_calV iX7_ask 2 := ⟨⟨ax_in 1080 (by decide +kernel) rfl, ax_in 42 (by decide +kernel) rfl, ⟨by decide +kernel, by decide +kernel⟩, by decide +kernel, by decide, by decide +kernel⟩, ax_in 1078 (by decide +kernel) rfl, ax_in 1079 (by decide +kernel) rfl⟩
abbrev iX7_sizeOf : ax_I := (yX7_sizeOf, cX7_sizeOf, 4, (some .int))
theorem kX7_sizeOf : ax_calV iX7_sizeOf 1 := ⟨⟨ax_in 1084 (by decide +kernel) rfl, ax_in 42 (by decide +kernel) rfl, ⟨by decide +kernel, by decide +kernel⟩, by decide +kernel, by decide, by decide +kernel⟩, ax_in 1083 (by decide +kernel) rfl, ax_in 29 (by decide +kernel) rfl⟩
abbrev iX7_goSize : ax_I := (yX7_goSize, cX7_goSize, 3, (some .int))
theorem kX7_goSize : ax_calV iX7_goSize 1 := ⟨⟨ax_in 1088 (by decide +kernel) rfl, ax_in 42 (by decide +kernel) rfl, ⟨by decide +kernel, by decide +kernel⟩, by decide +kernel, by decide, by decide +kernel⟩, ax_in 1087 (by decide +kernel) rfl, ax_in 30 (by decide +kernel) rfl⟩
abbrev iX7_began : ax_I := (yX7_began, cX7_began, 2, none)
theorem kX7_began : ax_calV iX7_began 1 := ⟨⟨ax_in 1092 (by decide +kernel) rfl, ax_in 42 (by decide +kernel) rfl, ⟨by decide +kernel, by decide +kernel⟩, by decide +kernel, by decide, by decide +kernel⟩, ax_in 1091 (by decide +kernel) rfl, ax_in 31 (by decide +kernel) rfl⟩
abbrev iX7_plainSize : ax_I := (yX7_plainSize, cX7_plainSize, 2, (some .int))
theorem kX7_plainSize : ax_calV iX7_plainSize 1 := ⟨⟨ax_in 1096 (by decide +kernel) rfl, ax_in 42 (by decide +kernel) rfl, ⟨by decide +kernel, by decide +kernel⟩, by decide +kernel, by decide, by decide +kernel⟩, ax_in 1095 (by decide +kernel) rfl, ax_in 32 (by decide +kernel) rfl⟩
abbrev iX7_markOf : ax_I := (yX7_markOf, cX7_markOf, 4, (some .int))
theorem kX7_markOf : ax_calV iX7_markOf 1 := ⟨⟨ax_in 1100 (by decide +kernel) rfl, ax_in 42 (by decide +kernel) rfl, ⟨by decide +kernel, by decide +kernel⟩, by decide +kernel, by decide, by decide +kernel⟩, ax_in 1099 (by decide +kernel) rfl, ax_in 33 (by decide +kernel) rfl⟩
abbrev iX7_trace : ax_I := (yX7_trace, cX7_trace, 2, (some .int))
theorem kX7_trace : ax_calV iX7_trace 1 := ⟨⟨ax_in 1104 (by decide +kernel) rfl, ax_in 42 (by decide +kernel) rfl, ⟨by decide +kernel, by decide +kernel⟩, by decide +kernel, by decide, by decide +kernel⟩, ax_in 1102 (by decide +kernel) rfl, ax_in 1103 (by decide +kernel) rfl⟩
abbrev iX7_count : ax_I := (yX7_count, cX7_count, 4, (some .int))
theorem kX7_count : ax_calV iX7_count 1 := ⟨⟨ax_in 1108 (by decide +kernel) rfl, ax_in 42 (by decide +kernel) rfl, ⟨by decide +kernel, by decide +kernel⟩, by decide +kernel, by decide, by decide +kernel⟩, ax_in 1106 (by decide +kernel) rfl, ax_in 1107 (by decide +kernel) rfl⟩
abbrev iX7_status : ax_I := (yX7_status, cX7_status, 1, (some .int))
theorem kX7_status : ax_calV iX7_status 0 := ⟨⟨ax_in 1112 (by decide +kernel) rfl, ax_in 42 (by decide +kernel) rfl, ⟨by decide +kernel, by decide +kernel⟩, by decide +kernel, by decide, by decide +kernel⟩, ax_in 1110 (by decide +kernel) rfl, ax_in 1111 (by decide +kernel) rfl⟩
theorem mL_9 : Cond.methodLink RL 9 yX6_init ∈ ax_tb := ax_in 53 (by decide +kernel) rfl
theorem mX6_17 : Cond.methodLink RX6 17 yX4_init ∈ ax_tb := ax_in 63 (by decide +kernel) rfl
theorem mX4_17 : Cond.methodLink RX4 17 yX3_init ∈ ax_tb := ax_in 69 (by decide +kernel) rfl
theorem mX6_24 : Cond.methodLink RX6 24 yX3_init ∈ ax_tb := ax_in 172 (by decide +kernel) rfl
theorem mX6_35 : Cond.methodLink RX6 35 yX0_init ∈ ax_tb := ax_in 176 (by decide +kernel) rfl
theorem mX6_42 : Cond.methodLink RX6 42 yX2_init ∈ ax_tb := ax_in 195 (by decide +kernel) rfl
theorem mX2_11 : Cond.methodLink RX2 11 yX3_init ∈ ax_tb := ax_in 200 (by decide +kernel) rfl
theorem mX6_49 : Cond.methodLink RX6 49 yX1_init ∈ ax_tb := ax_in 208 (by decide +kernel) rfl
theorem mX6_54 : Cond.methodLink RX6 54 yX5_init ∈ ax_tb := ax_in 222 (by decide +kernel) rfl
theorem mL_13 : Cond.methodLink RL 13 yX6_row ∈ ax_tb := ax_in 271 (by decide +kernel) rfl
theorem mX6_55 : Cond.methodLink RX6 55 yX6_isRow ∈ ax_tb := ax_in 275 (by decide +kernel) rfl
theorem mX6_59 : Cond.methodLink RX6 59 yX6_isWithin ∈ ax_tb := ax_in 278 (by decide +kernel) rfl
theorem mX6_64 : Cond.methodLink RX6 64 yX6_found ∈ ax_tb := ax_in 282 (by decide +kernel) rfl
theorem mX6_68 : Cond.methodLink RX6 68 yX5_begin ∈ ax_tb := ax_in 287 (by decide +kernel) rfl
theorem mX5_15 : Cond.methodLink RX5 15 yJ7_fill_53178 ∈ ax_tb := ax_in 291 (by decide +kernel) rfl
theorem mL_18 : Cond.methodLink RL 18 yX6_set ∈ ax_tb := ax_in 294 (by decide +kernel) rfl
theorem mX6_80 : Cond.methodLink RX6 80 yX5_hasPlaces ∈ ax_tb := ax_in 298 (by decide +kernel) rfl
theorem mX6_88 : Cond.methodLink RX6 88 yX5_lowestBits ∈ ax_tb := ax_in 302 (by decide +kernel) rfl
theorem mL_22 : Cond.methodLink RL 22 yX6_copy ∈ ax_tb := ax_in 306 (by decide +kernel) rfl
theorem mL_27 : Cond.methodLink RL 27 yX6_drop ∈ ax_tb := ax_in 313 (by decide +kernel) rfl
theorem mL_34 : Cond.methodLink RL 34 yX6_feed ∈ ax_tb := ax_in 317 (by decide +kernel) rfl
theorem mL_39 : Cond.methodLink RL 39 yX6_pass ∈ ax_tb := ax_in 322 (by decide +kernel) rfl
theorem mX6_109 : Cond.methodLink RX6 109 yX4_readPass ∈ ax_tb := ax_in 326 (by decide +kernel) rfl
theorem mX4_36 : Cond.methodLink RX4 36 yX4_readToll ∈ ax_tb := ax_in 330 (by decide +kernel) rfl
theorem mX4_40 : Cond.methodLink RX4 40 yX4_step ∈ ax_tb := ax_in 334 (by decide +kernel) rfl
theorem mX4_108 : Cond.methodLink RX4 108 yX4_isLetter ∈ ax_tb := ax_in 338 (by decide +kernel) rfl
theorem mX4_111 : Cond.methodLink RX4 111 yX4_stepName ∈ ax_tb := ax_in 342 (by decide +kernel) rfl
theorem mX4_114 : Cond.methodLink RX4 114 yX4_isFigure ∈ ax_tb := ax_in 346 (by decide +kernel) rfl
theorem mX4_117 : Cond.methodLink RX4 117 yX4_stepNumber ∈ ax_tb := ax_in 350 (by decide +kernel) rfl
theorem mX4_54 : Cond.methodLink RX4 54 yX4_isWord ∈ ax_tb := ax_in 355 (by decide +kernel) rfl
theorem mX4_120 : Cond.methodLink RX4 120 yJ0_length_8abf5 ∈ ax_tb := ax_in 359 (by decide +kernel) rfl
theorem mJ0_335 : Cond.methodLink RJ0 335 yJ0_coder_7d493 ∈ ax_tb := ax_in 363 (by decide +kernel) rfl
theorem mX4_124 : Cond.methodLink RX4 124 yJ0_charAt_5068e ∈ ax_tb := ax_in 369 (by decide +kernel) rfl
theorem mJ0_492 : Cond.methodLink RJ0 492 yJ0_isLatin1_aae02 ∈ ax_tb := ax_in 373 (by decide +kernel) rfl
theorem mJ0_495 : Cond.methodLink RJ0 495 yJ1_charAt_3b067 ∈ ax_tb := ax_in 377 (by decide +kernel) rfl
theorem mJ1_9 : Cond.methodLink RJ1 9 yJ0_checkIndex_df160 ∈ ax_tb := ax_in 380 (by decide +kernel) rfl
theorem mJ0_1059 : Cond.methodLink RJ0 1059 yJ3_checkIndex_8e157 ∈ ax_tb := ax_in 385 (by decide +kernel) rfl
theorem mJ0_498 : Cond.methodLink RJ0 498 yJ2_charAt_3b067 ∈ ax_tb := ax_in 388 (by decide +kernel) rfl
theorem mJ2_67 : Cond.methodLink RJ2 67 yJ2_checkIndex_2214a ∈ ax_tb := ax_in 391 (by decide +kernel) rfl
theorem mJ2_48 : Cond.methodLink RJ2 48 yJ2_length_9d52b ∈ ax_tb := ax_in 394 (by decide +kernel) rfl
theorem mJ2_414 : Cond.methodLink RJ2 414 yJ0_checkIndex_df160 ∈ ax_tb := ax_in 397 (by decide +kernel) rfl
theorem mJ2_71 : Cond.methodLink RJ2 71 yJ2_getChar_3b067 ∈ ax_tb := ax_in 398 (by decide +kernel) rfl
theorem mX4_58 : Cond.methodLink RX4 58 yX4_fail ∈ ax_tb := ax_in 407 (by decide +kernel) rfl
theorem mX4_62 : Cond.methodLink RX4 62 yX4_readNumber ∈ ax_tb := ax_in 411 (by decide +kernel) rfl
theorem mX4_71 : Cond.methodLink RX4 71 yX4_readSign ∈ ax_tb := ax_in 415 (by decide +kernel) rfl
theorem mX4_46 : Cond.methodLink RX4 46 yX3_beginAnew ∈ ax_tb := ax_in 419 (by decide +kernel) rfl
theorem mX3_67 : Cond.methodLink RX3 67 yJ7_fill_53178 ∈ ax_tb := ax_in 424 (by decide +kernel) rfl
theorem mX4_49 : Cond.methodLink RX4 49 yX4_readCart ∈ ax_tb := ax_in 425 (by decide +kernel) rfl
theorem mX4_79 : Cond.methodLink RX4 79 yX4_kindNamed ∈ ax_tb := ax_in 430 (by decide +kernel) rfl
theorem mX6_124 : Cond.methodLink RX6 124 yX3_become ∈ ax_tb := ax_in 440 (by decide +kernel) rfl
theorem mX3_39 : Cond.methodLink RX3 39 yX3_copyAll ∈ ax_tb := ax_in 444 (by decide +kernel) rfl
theorem mX3_54 : Cond.methodLink RX3 54 yJ9_min_7cf53 ∈ ax_tb := ax_in 447 (by decide +kernel) rfl
theorem mL_44 : Cond.methodLink RL 44 yX6_fault ∈ ax_tb := ax_in 451 (by decide +kernel) rfl
theorem mL_48 : Cond.methodLink RL 48 yX6_hour ∈ ax_tb := ax_in 455 (by decide +kernel) rfl
theorem mX6_139 : Cond.methodLink RX6 139 yX0_keep ∈ ax_tb := ax_in 460 (by decide +kernel) rfl
theorem mX6_142 : Cond.methodLink RX6 142 yX3_goBy ∈ ax_tb := ax_in 465 (by decide +kernel) rfl
theorem mX3_84 : Cond.methodLink RX3 84 yX3_standing ∈ ax_tb := ax_in 472 (by decide +kernel) rfl
theorem mX3_87 : Cond.methodLink RX3 87 yX3_readyOf ∈ ax_tb := ax_in 476 (by decide +kernel) rfl
theorem mX3_97 : Cond.methodLink RX3 97 yJ6_bitCount_0f7a4 ∈ ax_tb := ax_in 480 (by decide +kernel) rfl
theorem mX3_109 : Cond.methodLink RX3 109 yX3_isReady ∈ ax_tb := ax_in 486 (by decide +kernel) rfl
theorem mX3_91 : Cond.methodLink RX3 91 yX3_followersOf ∈ ax_tb := ax_in 490 (by decide +kernel) rfl
theorem mX3_94 : Cond.methodLink RX3 94 yX3_foremostOf ∈ ax_tb := ax_in 494 (by decide +kernel) rfl
theorem mX3_113 : Cond.methodLink RX3 113 yX3_isAhead ∈ ax_tb := ax_in 498 (by decide +kernel) rfl
theorem mX3_102 : Cond.methodLink RX3 102 yX3_tollFor ∈ ax_tb := ax_in 502 (by decide +kernel) rfl
theorem mX3_105 : Cond.methodLink RX3 105 yX3_markGone ∈ ax_tb := ax_in 506 (by decide +kernel) rfl
theorem mL_52 : Cond.methodLink RL 52 yX6_waits ∈ ax_tb := ax_in 510 (by decide +kernel) rfl
theorem mX6_146 : Cond.methodLink RX6 146 yX6_isCart ∈ ax_tb := ax_in 514 (by decide +kernel) rfl
theorem mL_57 : Cond.methodLink RL 57 yX6_undo ∈ ax_tb := ax_in 519 (by decide +kernel) rfl
theorem mX6_162 : Cond.methodLink RX6 162 yX3_goBack ∈ ax_tb := ax_in 523 (by decide +kernel) rfl
theorem mL_61 : Cond.methodLink RL 61 yX6_cart ∈ ax_tb := ax_in 527 (by decide +kernel) rfl
theorem mX6_174 : Cond.methodLink RX6 174 yX3_costOf ∈ ax_tb := ax_in 531 (by decide +kernel) rfl
theorem mL_65 : Cond.methodLink RL 65 yX6_day ∈ ax_tb := ax_in 535 (by decide +kernel) rfl
theorem mX6_177 : Cond.methodLink RX6 177 yX2_dayOf ∈ ax_tb := ax_in 539 (by decide +kernel) rfl
theorem mX2_18 : Cond.methodLink RX2 18 yX3_become ∈ ax_tb := ax_in 543 (by decide +kernel) rfl
theorem mX2_22 : Cond.methodLink RX2 22 yX3_runDay ∈ ax_tb := ax_in 544 (by decide +kernel) rfl
theorem mX3_73 : Cond.methodLink RX3 73 yX3_beginAnew ∈ ax_tb := ax_in 548 (by decide +kernel) rfl
theorem mX3_76 : Cond.methodLink RX3 76 yX3_goBy ∈ ax_tb := ax_in 549 (by decide +kernel) rfl
theorem mL_69 : Cond.methodLink RL 69 yX6_judge ∈ ax_tb := ax_in 550 (by decide +kernel) rfl
theorem mL_73 : Cond.methodLink RL 73 yX6_best ∈ ax_tb := ax_in 554 (by decide +kernel) rfl
theorem mX6_184 : Cond.methodLink RX6 184 yX2_dayWithBest ∈ ax_tb := ax_in 558 (by decide +kernel) rfl
theorem mX2_25 : Cond.methodLink RX2 25 yX2_takeBest ∈ ax_tb := ax_in 562 (by decide +kernel) rfl
theorem mX2_34 : Cond.methodLink RX2 34 yX3_costOf ∈ ax_tb := ax_in 567 (by decide +kernel) rfl
theorem mL_77 : Cond.methodLink RL 77 yX6_rest ∈ ax_tb := ax_in 568 (by decide +kernel) rfl
theorem mX6_188 : Cond.methodLink RX6 188 yX2_roundsToRest ∈ ax_tb := ax_in 572 (by decide +kernel) rfl
theorem mL_81 : Cond.methodLink RL 81 yX6_thought ∈ ax_tb := ax_in 577 (by decide +kernel) rfl
theorem mX6_195 : Cond.methodLink RX6 195 yX6_isHour ∈ ax_tb := ax_in 581 (by decide +kernel) rfl
theorem mX6_198 : Cond.methodLink RX6 198 yX2_patiencesToGoIn ∈ ax_tb := ax_in 582 (by decide +kernel) rfl
theorem mL_85 : Cond.methodLink RL 85 yX6_two ∈ ax_tb := ax_in 586 (by decide +kernel) rfl
theorem mX6_202 : Cond.methodLink RX6 202 yX2_whenOfTwo ∈ ax_tb := ax_in 590 (by decide +kernel) rfl
theorem mX2_46 : Cond.methodLink RX2 46 yX3_tollFor ∈ ax_tb := ax_in 594 (by decide +kernel) rfl
theorem mL_90 : Cond.methodLink RL 90 yX6_shares ∈ ax_tb := ax_in 595 (by decide +kernel) rfl
theorem mX6_206 : Cond.methodLink RX6 206 yX3_holds ∈ ax_tb := ax_in 599 (by decide +kernel) rfl
theorem mX3_117 : Cond.methodLink RX3 117 yX3_greatestShares ∈ ax_tb := ax_in 603 (by decide +kernel) rfl
theorem mX6_209 : Cond.methodLink RX6 209 yX3_greatestShares ∈ ax_tb := ax_in 607 (by decide +kernel) rfl
theorem mL_94 : Cond.methodLink RL 94 yX6_size ∈ ax_tb := ax_in 608 (by decide +kernel) rfl
theorem mX6_213 : Cond.methodLink RX6 213 yX3_cheapestSize ∈ ax_tb := ax_in 612 (by decide +kernel) rfl
theorem mL_98 : Cond.methodLink RL 98 yX6_book ∈ ax_tb := ax_in 616 (by decide +kernel) rfl
theorem mX6_216 : Cond.methodLink RX6 216 yX2_timesFirst ∈ ax_tb := ax_in 620 (by decide +kernel) rfl
theorem mL_102 : Cond.methodLink RL 102 yX6_ford ∈ ax_tb := ax_in 624 (by decide +kernel) rfl
theorem mX6_219 : Cond.methodLink RX6 219 yX2_costByFord ∈ ax_tb := ax_in 628 (by decide +kernel) rfl
theorem mX2_58 : Cond.methodLink RX2 58 yJ9_min_7cf53 ∈ ax_tb := ax_in 632 (by decide +kernel) rfl
theorem mX2_64 : Cond.methodLink RX2 64 yX2_commonPart ∈ ax_tb := ax_in 633 (by decide +kernel) rfl
theorem mL_106 : Cond.methodLink RL 106 yX6_goat ∈ ax_tb := ax_in 636 (by decide +kernel) rfl
theorem mX6_222 : Cond.methodLink RX6 222 yX2_costOfGoat ∈ ax_tb := ax_in 640 (by decide +kernel) rfl
theorem mX2_67 : Cond.methodLink RX2 67 yX2_dayOf ∈ ax_tb := ax_in 644 (by decide +kernel) rfl
theorem mL_110 : Cond.methodLink RL 110 yX6_image ∈ ax_tb := ax_in 645 (by decide +kernel) rfl
theorem mL_114 : Cond.methodLink RL 114 yX6_restore ∈ ax_tb := ax_in 649 (by decide +kernel) rfl
theorem mL_118 : Cond.methodLink RL 118 yX6_kind ∈ ax_tb := ax_in 653 (by decide +kernel) rfl
theorem mL_122 : Cond.methodLink RL 122 yX6_as ∈ ax_tb := ax_in 657 (by decide +kernel) rfl
theorem mX6_228 : Cond.methodLink RX6 228 yX6_isOfKind ∈ ax_tb := ax_in 661 (by decide +kernel) rfl
theorem mL_126 : Cond.methodLink RL 126 yX6_ask ∈ ax_tb := ax_in 666 (by decide +kernel) rfl
theorem mX6_237 : Cond.methodLink RX6 237 yX1_begin ∈ ax_tb := ax_in 674 (by decide +kernel) rfl
theorem mX1_28 : Cond.methodLink RX1 28 yX1_answer ∈ ax_tb := ax_in 681 (by decide +kernel) rfl
theorem mL_130 : Cond.methodLink RL 130 yX6_trace ∈ ax_tb := ax_in 687 (by decide +kernel) rfl
theorem mL_134 : Cond.methodLink RL 134 yX6_count ∈ ax_tb := ax_in 691 (by decide +kernel) rfl
theorem mX6_244 : Cond.methodLink RX6 244 yX6_rowsThere ∈ ax_tb := ax_in 695 (by decide +kernel) rfl
theorem mX6_247 : Cond.methodLink RX6 247 yX3_cartsGone ∈ ax_tb := ax_in 699 (by decide +kernel) rfl
theorem mX6_250 : Cond.methodLink RX6 250 yX3_paidInAll ∈ ax_tb := ax_in 703 (by decide +kernel) rfl
theorem mL_138 : Cond.methodLink RL 138 yX6_status ∈ ax_tb := ax_in 707 (by decide +kernel) rfl
theorem mL_12 : Cond.methodLink RL 12 yX7_init ∈ ax_tb := ax_in 713 (by decide +kernel) rfl
theorem mL_17 : Cond.methodLink RL 17 yX7_row ∈ ax_tb := ax_in 824 (by decide +kernel) rfl
theorem mX7_79 : Cond.methodLink RX7 79 yX7_isRow ∈ ax_tb := ax_in 828 (by decide +kernel) rfl
theorem mX7_75 : Cond.methodLink RX7 75 yX7_in ∈ ax_tb := ax_in 832 (by decide +kernel) rfl
theorem mX7_86 : Cond.methodLink RX7 86 yX7_finding ∈ ax_tb := ax_in 837 (by decide +kernel) rfl
theorem mL_21 : Cond.methodLink RL 21 yX7_set ∈ ax_tb := ax_in 842 (by decide +kernel) rfl
theorem mL_26 : Cond.methodLink RL 26 yX7_copy ∈ ax_tb := ax_in 846 (by decide +kernel) rfl
theorem mL_31 : Cond.methodLink RL 31 yX7_drop ∈ ax_tb := ax_in 850 (by decide +kernel) rfl
theorem mL_38 : Cond.methodLink RL 38 yX7_feed ∈ ax_tb := ax_in 854 (by decide +kernel) rfl
theorem mL_43 : Cond.methodLink RL 43 yX7_pass ∈ ax_tb := ax_in 861 (by decide +kernel) rfl
theorem mX7_171 : Cond.methodLink RX7 171 yX7_begin ∈ ax_tb := ax_in 865 (by decide +kernel) rfl
theorem mX7_126 : Cond.methodLink RX7 126 yX7_next ∈ ax_tb := ax_in 869 (by decide +kernel) rfl
theorem mX7_105 : Cond.methodLink RX7 105 yX7_byteAt ∈ ax_tb := ax_in 873 (by decide +kernel) rfl
theorem mX7_114 : Cond.methodLink RX7 114 yX7_isLetter ∈ ax_tb := ax_in 878 (by decide +kernel) rfl
theorem mX7_117 : Cond.methodLink RX7 117 yX7_isFigure ∈ ax_tb := ax_in 881 (by decide +kernel) rfl
theorem mX7_174 : Cond.methodLink RX7 174 yX7_readToll ∈ ax_tb := ax_in 884 (by decide +kernel) rfl
theorem mX7_154 : Cond.methodLink RX7 154 yX7_name ∈ ax_tb := ax_in 888 (by decide +kernel) rfl
theorem mX7_140 : Cond.methodLink RX7 140 yX7_must ∈ ax_tb := ax_in 893 (by decide +kernel) rfl
theorem mX7_132 : Cond.methodLink RX7 132 yX7_bad ∈ ax_tb := ax_in 897 (by decide +kernel) rfl
theorem mX7_160 : Cond.methodLink RX7 160 yX7_number ∈ ax_tb := ax_in 901 (by decide +kernel) rfl
theorem mX7_136 : Cond.methodLink RX7 136 yX7_figures ∈ ax_tb := ax_in 905 (by decide +kernel) rfl
theorem mX7_164 : Cond.methodLink RX7 164 yX7_mustEnd ∈ ax_tb := ax_in 909 (by decide +kernel) rfl
theorem mX7_179 : Cond.methodLink RX7 179 yX7_readCart ∈ ax_tb := ax_in 914 (by decide +kernel) rfl
theorem mX7_167 : Cond.methodLink RX7 167 yX7_kindBy ∈ ax_tb := ax_in 918 (by decide +kernel) rfl
theorem mL_47 : Cond.methodLink RL 47 yX7_fault ∈ ax_tb := ax_in 927 (by decide +kernel) rfl
theorem mL_51 : Cond.methodLink RL 51 yX7_hour ∈ ax_tb := ax_in 931 (by decide +kernel) rfl
theorem mX7_224 : Cond.methodLink RX7 224 yX7_keep ∈ ax_tb := ax_in 936 (by decide +kernel) rfl
theorem mX7_227 : Cond.methodLink RX7 227 yX7_layNow ∈ ax_tb := ax_in 940 (by decide +kernel) rfl
theorem mX7_201 : Cond.methodLink RX7 201 yX7_of ∈ ax_tb := ax_in 944 (by decide +kernel) rfl
theorem mX7_220 : Cond.methodLink RX7 220 yX7_goHour ∈ ax_tb := ax_in 948 (by decide +kernel) rfl
theorem mX7_211 : Cond.methodLink RX7 211 yX7_isReady ∈ ax_tb := ax_in 952 (by decide +kernel) rfl
theorem mX7_204 : Cond.methodLink RX7 204 yX7_stands ∈ ax_tb := ax_in 956 (by decide +kernel) rfl
theorem mX7_208 : Cond.methodLink RX7 208 yX7_standing ∈ ax_tb := ax_in 960 (by decide +kernel) rfl
theorem mX7_214 : Cond.methodLink RX7 214 yX7_isAhead ∈ ax_tb := ax_in 964 (by decide +kernel) rfl
theorem mX7_217 : Cond.methodLink RX7 217 yX7_tollFor ∈ ax_tb := ax_in 968 (by decide +kernel) rfl
theorem mL_56 : Cond.methodLink RL 56 yX7_waits ∈ ax_tb := ax_in 972 (by decide +kernel) rfl
theorem mX7_230 : Cond.methodLink RX7 230 yX7_isCart ∈ ax_tb := ax_in 976 (by decide +kernel) rfl
theorem mL_60 : Cond.methodLink RL 60 yX7_undo ∈ ax_tb := ax_in 981 (by decide +kernel) rfl
theorem mL_64 : Cond.methodLink RL 64 yX7_cart ∈ ax_tb := ax_in 985 (by decide +kernel) rfl
theorem mX7_235 : Cond.methodLink RX7 235 yX7_costOf ∈ ax_tb := ax_in 990 (by decide +kernel) rfl
theorem mL_68 : Cond.methodLink RL 68 yX7_day ∈ ax_tb := ax_in 994 (by decide +kernel) rfl
theorem mX7_238 : Cond.methodLink RX7 238 yX7_goDay ∈ ax_tb := ax_in 998 (by decide +kernel) rfl
theorem mL_72 : Cond.methodLink RL 72 yX7_judge ∈ ax_tb := ax_in 1002 (by decide +kernel) rfl
theorem mL_76 : Cond.methodLink RL 76 yX7_best ∈ ax_tb := ax_in 1008 (by decide +kernel) rfl
theorem mX7_248 : Cond.methodLink RX7 248 yX7_bestOf ∈ ax_tb := ax_in 1012 (by decide +kernel) rfl
theorem mL_80 : Cond.methodLink RL 80 yX7_rest ∈ ax_tb := ax_in 1016 (by decide +kernel) rfl
theorem mL_84 : Cond.methodLink RL 84 yX7_thought ∈ ax_tb := ax_in 1020 (by decide +kernel) rfl
theorem mX7_251 : Cond.methodLink RX7 251 yX7_isHour ∈ ax_tb := ax_in 1024 (by decide +kernel) rfl
theorem mL_89 : Cond.methodLink RL 89 yX7_two ∈ ax_tb := ax_in 1027 (by decide +kernel) rfl
theorem mL_93 : Cond.methodLink RL 93 yX7_shares ∈ ax_tb := ax_in 1031 (by decide +kernel) rfl
theorem mX7_256 : Cond.methodLink RX7 256 yX7_part ∈ ax_tb := ax_in 1036 (by decide +kernel) rfl
theorem mL_97 : Cond.methodLink RL 97 yX7_size ∈ ax_tb := ax_in 1039 (by decide +kernel) rfl
theorem mL_101 : Cond.methodLink RL 101 yX7_book ∈ ax_tb := ax_in 1043 (by decide +kernel) rfl
theorem mL_105 : Cond.methodLink RL 105 yX7_ford ∈ ax_tb := ax_in 1048 (by decide +kernel) rfl
theorem mL_109 : Cond.methodLink RL 109 yX7_goat ∈ ax_tb := ax_in 1054 (by decide +kernel) rfl
theorem mL_113 : Cond.methodLink RL 113 yX7_image ∈ ax_tb := ax_in 1058 (by decide +kernel) rfl
theorem mL_117 : Cond.methodLink RL 117 yX7_restore ∈ ax_tb := ax_in 1062 (by decide +kernel) rfl
theorem mL_121 : Cond.methodLink RL 121 yX7_kind ∈ ax_tb := ax_in 1066 (by decide +kernel) rfl
theorem mL_125 : Cond.methodLink RL 125 yX7_as ∈ ax_tb := ax_in 1070 (by decide +kernel) rfl
theorem mX7_266 : Cond.methodLink RX7 266 yX7_isOf ∈ ax_tb := ax_in 1074 (by decide +kernel) rfl
theorem mL_129 : Cond.methodLink RL 129 yX7_ask ∈ ax_tb := ax_in 1077 (by decide +kernel) rfl
theorem mX7_284 : Cond.methodLink RX7 284 yX7_sizeOf ∈ ax_tb := ax_in 1081 (by decide +kernel) rfl
theorem mX7_278 : Cond.methodLink RX7 278 yX7_goSize ∈ ax_tb := ax_in 1085 (by decide +kernel) rfl
theorem mX7_272 : Cond.methodLink RX7 272 yX7_began ∈ ax_tb := ax_in 1089 (by decide +kernel) rfl
theorem mX7_275 : Cond.methodLink RX7 275 yX7_plainSize ∈ ax_tb := ax_in 1093 (by decide +kernel) rfl
theorem mX7_281 : Cond.methodLink RX7 281 yX7_markOf ∈ ax_tb := ax_in 1097 (by decide +kernel) rfl
theorem mL_133 : Cond.methodLink RL 133 yX7_trace ∈ ax_tb := ax_in 1101 (by decide +kernel) rfl
theorem mL_137 : Cond.methodLink RL 137 yX7_count ∈ ax_tb := ax_in 1105 (by decide +kernel) rfl
theorem mL_141 : Cond.methodLink RL 141 yX7_status ∈ ax_tb := ax_in 1109 (by decide +kernel) rfl
theorem mX3_80 : Cond.methodLinkNest RX3 80 yX6_isHour "FirstCart" ∈ lw_tbl := List.mem_of_getElem? (i := 469) (by decide +kernel)
theorem mX1_24 : Cond.methodLinkNest RX1 24 yX6_bodyFor "FirstCart" ∈ lw_tbl := List.mem_of_getElem? (i := 678) (by decide +kernel)
theorem qX6_63 : Cond.constant RX6 63 (-1000001) ∈ ax_tb := ax_in 281 (by decide +kernel) rfl
theorem qX6_253 : Cond.constant RX6 253 (-1000010) ∈ ax_tb := ax_in 286 (by decide +kernel) rfl
theorem qX6_104 : Cond.constant RX6 104 (-1000003) ∈ ax_tb := ax_in 321 (by decide +kernel) rfl
theorem qX3_66 : Cond.constant RX3 66 (-1000000) ∈ ax_tb := ax_in 423 (by decide +kernel) rfl
theorem qX6_117 : Cond.constant RX6 117 (-1000100) ∈ ax_tb := ax_in 439 (by decide +kernel) rfl
theorem qX6_135 : Cond.constant RX6 135 (-1000002) ∈ ax_tb := ax_in 459 (by decide +kernel) rfl
theorem qJ6_265 : Cond.constant RJ6 265 (1431655765) ∈ ax_tb := ax_in 483 (by decide +kernel) rfl
theorem qJ6_266 : Cond.constant RJ6 266 (858993459) ∈ ax_tb := ax_in 484 (by decide +kernel) rfl
theorem qJ6_267 : Cond.constant RJ6 267 (252645135) ∈ ax_tb := ax_in 485 (by decide +kernel) rfl
theorem qX6_152 : Cond.constant RX6 152 (-1000000) ∈ ax_tb := ax_in 518 (by decide +kernel) rfl
theorem qX2_33 : Cond.constant RX2 33 (1000000) ∈ ax_tb := ax_in 566 (by decide +kernel) rfl
theorem qX2_42 : Cond.constant RX2 42 (-1000000) ∈ ax_tb := ax_in 576 (by decide +kernel) rfl
theorem qX7_73 : Cond.constantLong RX7 73 (7) ∈ ax_tb := ax_in 831 (by decide +kernel) rfl
theorem qX7_83 : Cond.constantLong RX7 83 (2) ∈ ax_tb := ax_in 835 (by decide +kernel) rfl
theorem qX7_85 : Cond.constant RX7 85 (-1000001) ∈ ax_tb := ax_in 836 (by decide +kernel) rfl
theorem qX7_72 : Cond.constant RX7 72 (-1000010) ∈ ax_tb := ax_in 841 (by decide +kernel) rfl
theorem qX7_90 : Cond.constantLong RX7 90 (8) ∈ ax_tb := ax_in 858 (by decide +kernel) rfl
theorem qX7_95 : Cond.constant RX7 95 (-1000003) ∈ ax_tb := ax_in 859 (by decide +kernel) rfl
theorem qX7_96 : Cond.constantLong RX7 96 (255) ∈ ax_tb := ax_in 860 (by decide +kernel) rfl
theorem qX7_101 : Cond.constant RX7 101 (-1000000) ∈ ax_tb := ax_in 877 (by decide +kernel) rfl
theorem qX7_158 : Cond.constantLong RX7 158 (1953459308) ∈ ax_tb := ax_in 892 (by decide +kernel) rfl
theorem qX7_177 : Cond.constantLong RX7 177 (1667330676) ∈ ax_tb := ax_in 913 (by decide +kernel) rfl
theorem qX7_144 : Cond.constantLong RX7 144 (2002872692) ∈ ax_tb := ax_in 921 (by decide +kernel) rfl
theorem qX7_146 : Cond.constantLong RX7 146 (26479) ∈ ax_tb := ax_in 922 (by decide +kernel) rfl
theorem qX7_148 : Cond.constantLong RX7 148 (1718579821) ∈ ax_tb := ax_in 923 (by decide +kernel) rfl
theorem qX7_150 : Cond.constantLong RX7 150 (1650549611) ∈ ax_tb := ax_in 924 (by decide +kernel) rfl
theorem qX7_152 : Cond.constantLong RX7 152 (422725643876) ∈ ax_tb := ax_in 925 (by decide +kernel) rfl
theorem qX7_185 : Cond.constant RX7 185 (-1000100) ∈ ax_tb := ax_in 926 (by decide +kernel) rfl
theorem qX7_223 : Cond.constant RX7 223 (-1000002) ∈ ax_tb := ax_in 935 (by decide +kernel) rfl
theorem qX7_193 : Cond.constantLong RX7 193 (11) ∈ ax_tb := ax_in 980 (by decide +kernel) rfl
theorem qX7_233 : Cond.constantLong RX7 233 (5) ∈ ax_tb := ax_in 989 (by decide +kernel) rfl
theorem qX7_241 : Cond.constantLong RX7 241 (12) ∈ ax_tb := ax_in 1006 (by decide +kernel) rfl
theorem qX7_243 : Cond.constantLong RX7 243 (-1) ∈ ax_tb := ax_in 1007 (by decide +kernel) rfl
theorem qX7_254 : Cond.constantLong RX7 254 (6) ∈ ax_tb := ax_in 1035 (by decide +kernel) rfl
theorem qX7_260 : Cond.constantLong RX7 260 (30) ∈ ax_tb := ax_in 1047 (by decide +kernel) rfl
theorem qX7_262 : Cond.constantLong RX7 262 (100) ∈ ax_tb := ax_in 1052 (by decide +kernel) rfl
theorem qX7_264 : Cond.constantLong RX7 264 (3) ∈ ax_tb := ax_in 1053 (by decide +kernel) rfl
theorem qL_32 : Cond.constantLong RL 32 (4294967295) ∈ ax_tb := ax_in 1113 (by decide +kernel) rfl
end
section
/-- a cell's shape: an array (type, length), an object (class, for each field the cell that it holds for ever, or a number) -/
abbrev ax_Sh : Type := (Nat × Nat) ⊕ (Nat × List (Option Nat))
def ax_shL : List ax_Sh := [.inr (6, [some 1, some 2, some 14, some 24, some 25, some 28, some 39, none, none]),
  .inl (3, 8),
  .inr (4, [some 3, none, some 4, none, none, none, none, none]),
  .inl (1, 400),
  .inr (3, [some 5, some 6, some 7, some 8, some 9, some 10, some 11, some 12, some 13, none, none, none]),
  .inl (0, 6),
  .inl (0, 7),
  .inl (0, 7),
  .inl (0, 7),
  .inl (0, 7),
  .inl (0, 7),
  .inl (0, 7),
  .inl (0, 7),
  .inl (0, 12),
  .inr (3, [some 15, some 16, some 17, some 18, some 19, some 20, some 21, some 22, some 23, none, none, none]),
  .inl (0, 6),
  .inl (0, 7),
  .inl (0, 7),
  .inl (0, 7),
  .inl (0, 7),
  .inl (0, 7),
  .inl (0, 7),
  .inl (0, 7),
  .inl (0, 12),
  .inl (4, 2),
  .inr (0, [some 26, some 27, none]),
  .inl (0, 24),
  .inl (0, 24),
  .inr (2, [some 29]),
  .inr (3, [some 30, some 31, some 32, some 33, some 34, some 35, some 36, some 37, some 38, none, none, none]),
  .inl (0, 6),
  .inl (0, 7),
  .inl (0, 7),
  .inl (0, 7),
  .inl (0, 7),
  .inl (0, 7),
  .inl (0, 7),
  .inl (0, 7),
  .inl (0, 12),
  .inr (1, [some 40, none]),
  .inl (0, 16),
  .inr (5, [some 42, none, none, none]),
  .inl (0, 40),
  .inr (5, [some 44, none, none, none]),
  .inl (0, 40),
  .inr (5, [some 46, none, none, none]),
  .inl (0, 40),
  .inr (5, [some 48, none, none, none]),
  .inl (0, 40),
  .inr (5, [some 50, none, none, none]),
  .inl (0, 40),
  .inr (5, [some 52, none, none, none]),
  .inl (0, 40),
  .inr (5, [some 54, none, none, none]),
  .inl (0, 40),
  .inr (5, [some 56, none, none, none]),
  .inl (0, 40),
  .inr (3, [some 58, some 59, some 60, some 61, some 62, some 63, some 64, some 65, some 66, none, none, none]),
  .inl (0, 6),
  .inl (0, 7),
  .inl (0, 7),
  .inl (0, 7),
  .inl (0, 7),
  .inl (0, 7),
  .inl (0, 7),
  .inl (0, 7),
  .inl (0, 12),
  .inr (3, [some 68, some 69, some 70, some 71, some 72, some 73, some 74, some 75, some 76, none, none, none]),
  .inl (0, 6),
  .inl (0, 7),
  .inl (0, 7),
  .inl (0, 7),
  .inl (0, 7),
  .inl (0, 7),
  .inl (0, 7),
  .inl (0, 7),
  .inl (0, 12),
  .inr (7, [none, none, some 78, some 79, some 80, some 81, some 82, none, some 83, none, some 84, none, none, none, none, none, none, none, none, none, none, some 85, some 86, some 87, some 88, some 89, some 90, some 91, some 92, none, none, some 93, some 94, some 95, none]),
  .inl (0, 8),
  .inl (0, 8),
  .inl (0, 320),
  .inl (0, 44),
  .inl (0, 44),
  .inl (0, 1056),
  .inl (0, 400),
  .inl (0, 7),
  .inl (0, 7),
  .inl (0, 7),
  .inl (0, 7),
  .inl (0, 7),
  .inl (0, 7),
  .inl (0, 12),
  .inl (0, 7),
  .inl (2, 2),
  .inl (0, 88),
  .inl (0, 16)]
def ax_sh (k : Nat) : ax_Sh := ax_shL.getD k (.inl (9, 0))
def ax_fs (ad : Nat → Nat) (fl : List (Option Nat)) (f : Nat → Int32) : List Value := fl.zipIdx.map (fun q => match q.1 with
  | some o => .ref (ad o)
  | none => .int (f q.2))
def ax_cel (cA : Nat → ClassId) (ad : Nat → Nat) (sh : ax_Sh) (f : Nat → Int32) : va_E := match sh with
  | .inl (3, n) => .inl (cA 3, n, .inr (.inr (.inr (.inr (fun r => some (ad (41 + 2 * r)))))))
  | .inl (4, n) => .inl (cA 4, n, .inr (.inr (.inr (.inr (fun r => some (ad (57 + 10 * r)))))))
  | .inl (t, n) => .inl (cA t, n, .inl f)
  | .inr (ci, fl) => .inr (ci, ax_fs ad fl f)
abbrev ax_Z : Type := Nat → Nat → Int32
def ax_g (Y : ax_Y) (ad : Nat → Nat) (σ : ax_Z) (k : Nat) : va_E := ax_cel Y.2.1 ad (ax_sh k) (σ k)
def ax_up (σ : ax_Z) (k j : Nat) (v : Int32) : ax_Z := fun a b => if a = k ∧ b = j then v else σ a b
theorem ax_sh_lt_o {k : Nat} {q : Nat × List (Option Nat)} (h : ax_sh k = .inr q) : k < 96 := by
  by_cases hk : k < 96
  · exact hk
  · unfold ax_sh at h
    rw [List.getD_eq_getElem?_getD, List.getElem?_eq_none (by show 96 ≤ k; omega)] at h
    cases h
theorem ax_sh_lt_a {k t n : Nat} (h : ax_sh k = .inl (t, n)) (ht : t < 9) : k < 96 := by
  by_cases hk : k < 96
  · exact hk
  · unfold ax_sh at h
    rw [List.getD_eq_getElem?_getD, List.getElem?_eq_none (by show 96 ≤ k; omega)] at h
    cases h
    omega
theorem ax_fs_get {ad : Nat → Nat} {fl : List (Option Nat)} {f : Nat → Int32} {j : Nat} : (ax_fs ad fl f)[j]? = (fl[j]?).map (fun z => match z with
    | some o => Value.ref (ad o)
    | none => .int (f j)) := by
  simp only [ax_fs, List.getElem?_map, List.getElem?_zipIdx, Option.map_map]
  cases fl[j]? with
  | none => rfl
  | some z => simp
theorem ax_fs_set {ad : Nat → Nat} {fl : List (Option Nat)} {f : Nat → Int32} {j : Nat} {v : Int32} (hj : fl[j]? = some none) : (ax_fs ad fl f).set j (.int v) = ax_fs ad fl (upd f j v) := by
  apply List.ext_getElem?
  intro m
  by_cases e : m = j
  · subst e
    rw [List.getElem?_set_self (by
      have := (List.getElem?_eq_some_iff.mp hj).1
      simpa [ax_fs] using this), ax_fs_get, hj]
    simp [upd]
  · rw [List.getElem?_set_ne (Ne.symm e), ax_fs_get, ax_fs_get]
    cases fl[m]? with
    | none => rfl
    | some z => cases z <;> simp [upd, e]
theorem ax_row {σ : ax_Z} {k j : Nat} {v : Int32} : (ax_up σ k j v) k = upd (σ k) j v := by
  funext b
  simp [ax_up, upd]
theorem ax_row_ne {σ : ax_Z} {k j a : Nat} {v : Int32} (h : a ≠ k) : (ax_up σ k j v) a = σ a := by
  funext b
  simp [ax_up, h]
theorem ax_g_up {Y : ax_Y} {ad : Nat → Nat} {σ : ax_Z} {k j : Nat} {v : Int32} {e : va_E} (he : ax_cel Y.2.1 ad (ax_sh k) (upd (σ k) j v) = e) : va_up (ax_g Y ad σ) k e = ax_g Y ad (ax_up σ k j v) := by
  funext a
  by_cases h : a = k
  · subst h
    simp only [va_up, if_true, ax_g, ax_row]
    exact he.symm
  · simp only [va_up, if_neg h, ax_g, ax_row_ne h]
theorem ax_g_obj {Y : ax_Y} {ad : Nat → Nat} {σ : ax_Z} {k ci : Nat} {fl : List (Option Nat)} (hs : ax_sh k = .inr (ci, fl)) : ax_g Y ad σ k = .inr (ci, ax_fs ad fl (σ k)) := by
  unfold ax_g
  rw [hs]
  rfl
theorem ax_cel_arr {cA : Nat → ClassId} {ad : Nat → Nat} {f : Nat → Int32} {t n : Nat} (ht : t < 3) : ax_cel cA ad (.inl (t, n)) f = .inl (cA t, n, .inl f) := by
  match t, ht with
  | 0, _ => rfl
  | 1, _ => rfl
  | 2, _ => rfl
theorem ax_g_arr {Y : ax_Y} {ad : Nat → Nat} {σ : ax_Z} {k t n : Nat} (hs : ax_sh k = .inl (t, n)) (ht : t < 3) : ax_g Y ad σ k = .inl (Y.2.1 t, n, .inl (σ k)) := by
  unfold ax_g
  rw [hs]
  exact ax_cel_arr ht
/-- the walk over the world of numbers -/
abbrev ax_S (x : ax_T) (Y : ax_Y) (ad : Nat → Nat) (kc ks : Nat) (Q : State → Prop) (σ : ax_Z) (pc : Nat) (L : List (Option Value)) (st : List Value) : Prop := ax_V x Y ad kc ks Q 96 (ax_g Y ad σ) pc L st
/-- a contract over the world of numbers -/
def ax_m (Y : ax_Y) (ad : Nat → Nat) (l : Launch) (j : ax_I) (h : Nat) (σ : ax_Z) (av : List Value) (r : Option Value) (σ' : ax_Z) : Prop := ax_M Y ad l j h 0 0 96 (ax_g Y ad σ) av r (ax_g Y ad σ')
section AXH
variable {x : ax_T} {Y : ax_Y} {ad : Nat → Nat} {i : ax_I} {h mc ms kc ks pc : Nat} {Q : State → Prop} {σ σ' : ax_Z} {L : List (Option Value)} {st rest av : List Value} {j : ax_I} {h' idx n : Nat} {r : Option Value}
theorem ax_getI (C : ax_C x Y i h mc ms) {k f ci : Nat} {fl : List (Option Nat)} {fin : Bool} {ty : FieldType} (lk : ax_FL i.1.cls idx ci f fin ty) (hd : decode i.2.1 pc = .ok (.getfield idx, 3)) (hs : ax_sh k = .inr (ci, fl)) (hf : fl[f]? = some none) (kk : ax_S x Y ad kc ks Q σ (pc + 3) L (.int (σ k f) :: st)) : ax_S x Y ad kc ks Q σ pc L (.ref (ad k) :: st) := by
  obtain ⟨q, ty0, ⟨c1, c2, c3, c4⟩, l1, l2, l3, l4⟩ := lk
  intro H ls locs hP hD hS hL
  refine va_get (Ts := ax_tb) C.exec C.bytes C.hts c2 C.own C.hK hP k (by rw [ax_hw_get (ax_sh_lt_o hs), ax_g_obj hs]) c1 f l1 (C.hts _ l2) (fun _ z => z) ?_ hd (kk H ls locs hP hD hS hL)
  rw [ax_fs_get, hf]
  rfl
theorem ax_getR (C : ax_C x Y i h mc ms) {k f ci o : Nat} {fl : List (Option Nat)} {fin : Bool} {ty : FieldType} (lk : ax_FL i.1.cls idx ci f fin ty) (hd : decode i.2.1 pc = .ok (.getfield idx, 3)) (hs : ax_sh k = .inr (ci, fl)) (hf : fl[f]? = some (some o)) (kk : ax_S x Y ad kc ks Q σ (pc + 3) L (.ref (ad o) :: st)) : ax_S x Y ad kc ks Q σ pc L (.ref (ad k) :: st) := by
  obtain ⟨q, ty0, ⟨c1, c2, c3, c4⟩, l1, l2, l3, l4⟩ := lk
  intro H ls locs hP hD hS hL
  refine va_get (Ts := ax_tb) C.exec C.bytes C.hts c2 C.own C.hK hP k (by rw [ax_hw_get (ax_sh_lt_o hs), ax_g_obj hs]) c1 f l1 (C.hts _ l2) (fun _ z => z) ?_ hd (kk H ls locs hP hD hS hL)
  rw [ax_fs_get, hf]
  rfl
theorem ax_putI (C : ax_C x Y i h mc ms) {k f ci : Nat} {fl : List (Option Nat)} {ty : FieldType} {v : Int32} (lk : ax_FL i.1.cls idx ci f false ty) (hd : decode i.2.1 pc = .ok (.putfield idx, 3)) (hs : ax_sh k = .inr (ci, fl)) (hf : fl[f]? = some none) (hn : narrow ty (.int v) = .int v) (hfit : fits ty (.int v) = true) (kk : ax_S x Y ad kc ks Q (ax_up σ k f v) (pc + 3) L st) : ax_S x Y ad kc ks Q σ pc L (.int v :: .ref (ad k) :: st) := by
  obtain ⟨q, ty0, ⟨c1, c2, c3, c4⟩, l1, l2, l3, l4⟩ := lk
  intro H ls locs hP hD hS hL
  have hl : f < fl.length := (List.getElem?_eq_some_iff.mp hf).1
  refine va_put (Ts := ax_tb) C.exec C.bytes C.hts c2 ty0 c3 c4 C.own C.hK hP hD hS k (by rw [ax_hw_get (ax_sh_lt_o hs), ax_g_obj hs]) c1 f l1 (C.hts _ l2) (fun _ z => z) l3 (c3 f l1) (by rw [l4]; exact hn) (by rw [l4]; exact hfit) (by simpa [ax_fs] using hl) hd (fun H1 locs1 hP1 hD1 hS1 => ?_)
  have e : va_up (ax_g Y ad σ) k (.inr (ci, (ax_fs ad fl (σ k)).set f (.int v))) = ax_g Y ad (ax_up σ k f v) := ax_g_up (by rw [hs, ax_fs_set hf]; rfl)
  rw [ax_hw_set, e] at hP1 hD1
  exact kk H1 ls locs1 hP1 hD1 hS1 hL
theorem ax_ial (C : ax_C x Y i h mc ms) {k m : Nat} {a : Int32} (hd : decode i.2.1 pc = .ok (.iaload, 1)) (hs : ax_sh k = .inl (0, m)) (hin : vp_in a m) (kk : ax_S x Y ad kc ks Q σ (pc + 1) L (.int (σ k a.toNatClampNeg) :: st)) : ax_S x Y ad kc ks Q σ pc L (.int a :: .ref (ad k) :: st) :=
  fun H ls locs hP hD hS hL => va_iald C.exec C.bytes C.hK hP k 0 (by rw [ax_hw_get (ax_sh_lt_a hs (by decide)), ax_g_arr hs (by decide)]) rfl hin hd (kk H ls locs hP hD hS hL)
theorem ax_ian (C : ax_C x Y i h mc ms) {k m c : Nat} (hd : decode i.2.1 pc = .ok (.iaload, 1)) (hs : ax_sh k = .inl (0, m)) (hc : c < m) (hm : m < 2000) (kk : ax_S x Y ad kc ks Q σ (pc + 1) L (.int (σ k c) :: st)) : ax_S x Y ad kc ks Q σ pc L (.int (nI c) :: .ref (ad k) :: st) :=
  ax_ial C hd hs (vp_in_nI hc (by omega)) (by rw [nI_clamp (by omega)]; exact kk)
theorem ax_ias (C : ax_C x Y i h mc ms) {k m : Nat} {a v : Int32} (hd : decode i.2.1 pc = .ok (.iastore, 1)) (hs : ax_sh k = .inl (0, m)) (hin : vp_in a m) (kk : ax_S x Y ad kc ks Q (ax_up σ k a.toNatClampNeg v) (pc + 1) L st) : ax_S x Y ad kc ks Q σ pc L (.int v :: .int a :: .ref (ad k) :: st) := by
  intro H ls locs hP hD hS hL
  refine va_iast C.exec C.bytes C.hK hP hD hS k 0 (by rw [ax_hw_get (ax_sh_lt_a hs (by decide)), ax_g_arr hs (by decide)]) rfl hin hd (fun H1 locs1 hP1 hD1 hS1 => ?_)
  have e : va_up (ax_g Y ad σ) k (.inl (Y.2.1 0, m, .inl (upd (σ k) a.toNatClampNeg v))) = ax_g Y ad (ax_up σ k a.toNatClampNeg v) := ax_g_up (by rw [hs]; exact ax_cel_arr (by decide))
  rw [ax_hw_set, e] at hP1 hD1
  exact kk H1 ls locs1 hP1 hD1 hS1 hL
theorem ax_isn (C : ax_C x Y i h mc ms) {k m c : Nat} {v : Int32} (hd : decode i.2.1 pc = .ok (.iastore, 1)) (hs : ax_sh k = .inl (0, m)) (hc : c < m) (hm : m < 2000) (kk : ax_S x Y ad kc ks Q (ax_up σ k c v) (pc + 1) L st) : ax_S x Y ad kc ks Q σ pc L (.int v :: .int (nI c) :: .ref (ad k) :: st) :=
  ax_ias C hd hs (vp_in_nI hc (by omega)) (by rw [nI_clamp (by omega)]; exact kk)
theorem ax_bal (C : ax_C x Y i h mc ms) {k m c : Nat} (hd : decode i.2.1 pc = .ok (.baload, 1)) (hs : ax_sh k = .inl (1, m)) (hc : c < m) (hm : m < 2000) (kk : ax_S x Y ad kc ks Q σ (pc + 1) L (.int (σ k c) :: st)) : ax_S x Y ad kc ks Q σ pc L (.int (nI c) :: .ref (ad k) :: st) :=
  fun H ls locs hP hD hS hL => va_bald C.exec C.bytes C.hK hP k 1 (by rw [ax_hw_get (ax_sh_lt_a hs (by decide)), ax_g_arr hs (by decide)]) rfl (vp_in_nI hc (by omega)) hd (by rw [nI_clamp (by omega)]; exact kk H ls locs hP hD hS hL)
theorem ax_bas (C : ax_C x Y i h mc ms) {k m c : Nat} {v : Int32} (hd : decode i.2.1 pc = .ok (.bastore, 1)) (hs : ax_sh k = .inl (1, m)) (hc : c < m) (hm : m < 2000) (kk : ax_S x Y ad kc ks Q (ax_up σ k c (vp_nar .byte v)) (pc + 1) L st) : ax_S x Y ad kc ks Q σ pc L (.int v :: .int (nI c) :: .ref (ad k) :: st) := by
  intro H ls locs hP hD hS hL
  refine va_bast C.exec C.bytes C.hK hP hD hS k 1 (by rw [ax_hw_get (ax_sh_lt_a hs (by decide)), ax_g_arr hs (by decide)]) rfl (vp_in_nI hc (by omega)) hd (fun H1 locs1 hP1 hD1 hS1 => ?_)
  rw [nI_clamp (by omega)] at hP1 hD1
  have e : va_up (ax_g Y ad σ) k (.inl (Y.2.1 1, m, .inl (upd (σ k) c (vp_nar .byte v)))) = ax_g Y ad (ax_up σ k c (vp_nar .byte v)) := ax_g_up (by rw [hs]; exact ax_cel_arr (by decide))
  rw [ax_hw_set, e] at hP1 hD1
  exact kk H1 ls locs1 hP1 hD1 hS1 hL
theorem ax_zal (C : ax_C x Y i h mc ms) {k m c : Nat} (hd : decode i.2.1 pc = .ok (.baload, 1)) (hs : ax_sh k = .inl (2, m)) (hc : c < m) (hm : m < 2000) (kk : ax_S x Y ad kc ks Q σ (pc + 1) L (.int (σ k c) :: st)) : ax_S x Y ad kc ks Q σ pc L (.int (nI c) :: .ref (ad k) :: st) :=
  fun H ls locs hP hD hS hL => va_zald C.exec C.bytes C.hK hP k 2 (by rw [ax_hw_get (ax_sh_lt_a hs (by decide)), ax_g_arr hs (by decide)]) rfl (vp_in_nI hc (by omega)) hd (by rw [nI_clamp (by omega)]; exact kk H ls locs hP hD hS hL)
theorem ax_zas (C : ax_C x Y i h mc ms) {k m c : Nat} {v : Int32} (hd : decode i.2.1 pc = .ok (.bastore, 1)) (hs : ax_sh k = .inl (2, m)) (hc : c < m) (hm : m < 2000) (kk : ax_S x Y ad kc ks Q (ax_up σ k c (vp_nar .boolean v)) (pc + 1) L st) : ax_S x Y ad kc ks Q σ pc L (.int v :: .int (nI c) :: .ref (ad k) :: st) := by
  intro H ls locs hP hD hS hL
  refine va_zast C.exec C.bytes C.hK hP hD hS k 2 (by rw [ax_hw_get (ax_sh_lt_a hs (by decide)), ax_g_arr hs (by decide)]) rfl (vp_in_nI hc (by omega)) hd (fun H1 locs1 hP1 hD1 hS1 => ?_)
  rw [nI_clamp (by omega)] at hP1 hD1
  have e : va_up (ax_g Y ad σ) k (.inl (Y.2.1 2, m, .inl (upd (σ k) c (vp_nar .boolean v)))) = ax_g Y ad (ax_up σ k c (vp_nar .boolean v)) := ax_g_up (by rw [hs]; exact ax_cel_arr (by decide))
  rw [ax_hw_set, e] at hP1 hD1
  exact kk H1 ls locs1 hP1 hD1 hS1 hL
theorem ax_rows (C : ax_C x Y i h mc ms) {c : Nat} (hd : decode i.2.1 pc = .ok (.aaload, 1)) (hc : c < 8) (kk : ax_S x Y ad kc ks Q σ (pc + 1) L (.ref (ad (41 + 2 * c)) :: st)) : ax_S x Y ad kc ks Q σ pc L (.int (nI c) :: .ref (ad 1) :: st) :=
  fun H ls locs hP hD hS hL => va_aldq (C := "FirstCart$Row") (n := 8) (f := fun r => some (ad (41 + 2 * r))) (cA := Y.2.1 3) C.exec C.bytes C.hK hP 1 3 (by rw [ax_hw_get (by decide)]; rfl) rfl (vp_in_nI hc (by omega)) hd (by rw [nI_clamp (by omega)]; exact kk H ls locs hP hD hS hL)
theorem ax_imgs (C : ax_C x Y i h mc ms) {c : Nat} (hd : decode i.2.1 pc = .ok (.aaload, 1)) (hc : c < 2) (kk : ax_S x Y ad kc ks Q σ (pc + 1) L (.ref (ad (57 + 10 * c)) :: st)) : ax_S x Y ad kc ks Q σ pc L (.int (nI c) :: .ref (ad 24) :: st) :=
  fun H ls locs hP hD hS hL => va_aldq (C := "FirstCart$Pass") (n := 2) (f := fun r => some (ad (57 + 10 * r))) (cA := Y.2.1 4) C.exec C.bytes C.hK hP 24 4 (by rw [ax_hw_get (by decide)]; rfl) rfl (vp_in_nI hc (by omega)) hd (by rw [nI_clamp (by omega)]; exact kk H ls locs hP hD hS hL)
theorem ax_alen (C : ax_C x Y i h mc ms) {k m : Nat} (hd : decode i.2.1 pc = .ok (.arraylength, 1)) (hs : ax_sh k = .inl (0, m)) (kk : ax_S x Y ad kc ks Q σ (pc + 1) L (.int (nI m) :: st)) : ax_S x Y ad kc ks Q σ pc L (.ref (ad k) :: st) :=
  fun H ls locs hP hD hS hL => va_alen (x := (m, .inl (σ k))) (v := nI m) C.exec C.bytes C.hK hP k 0 (by rw [ax_hw_get (ax_sh_lt_a hs (by decide)), ax_g_arr hs (by decide)]) rfl rfl hd (kk H ls locs hP hD hS hL)
/-! calls over the world of numbers -/
theorem ax_callS (C : ax_C x Y i h mc ms) (hM : ax_m Y ad x.1.2.1 j h' σ av r σ') (cal : ax_calS j n) (lk : Cond.methodLink i.1.cls idx j.1 ∈ ax_tb) (hd : decode i.2.1 pc = .ok (.invokestatic idx, 3)) (hh : h' + 1 ≤ h) (hst : st = av.reverse ++ rest) (hn : av.length = n) (hw : (rest.map fun v => v.category).sum ≤ 8) (hnL : L.length = i.2.2.1) (hc : kc ≤ mc ∧ ks ≤ ms)
    (kk : ax_S x Y ad kc ks Q σ' (pc + 3) L (r.toList ++ rest)) : ax_S x Y ad kc ks Q σ pc L st := ax_callSg C hM cal lk hh hst hn hw hnL hd hc kk
theorem ax_callN (C : ax_C x Y i h mc ms) {host : String} (hM : ax_m Y ad x.1.2.1 j h' σ av r σ') (cal : ax_calS j n) (lk : Cond.methodLinkNest i.1.cls idx j.1 host ∈ lw_tbl) (hd : decode i.2.1 pc = .ok (.invokestatic idx, 3)) (hh : h' + 1 ≤ h) (hst : st = av.reverse ++ rest) (hn : av.length = n) (hw : (rest.map fun v => v.category).sum ≤ 8) (hnL : L.length = i.2.2.1) (hc : kc ≤ mc ∧ ks ≤ ms)
    (kk : ax_S x Y ad kc ks Q σ' (pc + 3) L (r.toList ++ rest)) : ax_S x Y ad kc ks Q σ pc L st := ax_callNg C hM cal lk hh hst hn hw hnL hd hc kk
theorem ax_callV (C : ax_C x Y i h mc ms) {k ci : Nat} {fl : List (Option Nat)} {q : vw_C} {avs : List Value} (hM : ax_m Y ad x.1.2.1 j h' σ (.ref (ad k) :: avs) r σ') (cal : ax_calV j n) (lk : Cond.methodLink i.1.cls idx j.1 ∈ ax_tb) (hd : decode i.2.1 pc = .ok (.invokevirtual idx, 3)) (hh : h' + 1 ≤ h) (hst : st = avs.reverse ++ .ref (ad k) :: rest) (hs : ax_sh k = .inr (ci, fl)) (hq : vwCl[ci]? = some q) (hqc : q.1 = j.1.cls) (hn : avs.length = n) (hw : (rest.map fun v => v.category).sum ≤ 8) (hnL : L.length = i.2.2.1) (hc : kc ≤ mc ∧ ks ≤ ms)
    (kk : ax_S x Y ad kc ks Q σ' (pc + 3) L (r.toList ++ rest)) : ax_S x Y ad kc ks Q σ pc L st := ax_callVg C rfl (ax_sh_lt_o hs) (ax_g_obj hs) hq hqc hM cal lk hh hst hn hw hnL hd hc kk
theorem ax_m.of {l : Launch} (F : ax_F Y) (cal : ax_cal j n) (L0 : List (Option Value)) (hL0 : ax_Lav j.2.2.1 av = L0) (hlen : (lg_sl av).length ≤ j.2.2.1)
    (body : ∀ x : ax_T, ax_C x Y j h 0 0 → ax_S x Y ad 0 0 (ax_Q x Y ad r 96 (ax_g Y ad σ') 0 0) σ 0 L0 []) : ax_m Y ad l j h σ av r σ' := ax_M.of F cal L0 hL0 hlen body
theorem ax_ir (C : ax_C x Y i h 0 0) {v w : Int32} (hr : i.2.2.2 = some .int) (hd : decode i.2.1 pc = .ok (.ireturn, 1)) (e1 : w = v) (e2 : σ' = σ) : ax_S x Y ad 0 0 (ax_Q x Y ad (some (.int w)) 96 (ax_g Y ad σ') 0 0) σ pc L [.int v] := ax_iret C hr hd (by rw [e1]) (by rw [e2]) rfl rfl
theorem ax_zr (C : ax_C x Y i h 0 0) {v w : Int32} {ty : FieldType} (hr : i.2.2.2 = some ty) (hn : narrow ty (.int v) = .int v) (hd : decode i.2.1 pc = .ok (.ireturn, 1)) (e1 : w = v) (e2 : σ' = σ) : ax_S x Y ad 0 0 (ax_Q x Y ad (some (.int w)) 96 (ax_g Y ad σ') 0 0) σ pc L [.int v] := ax_zret C hr hn hd (by rw [e1]) (by rw [e2]) rfl rfl
theorem ax_lr (C : ax_C x Y i h 0 0) {v w : Int64} (hr : i.2.2.2 = some .long) (hd : decode i.2.1 pc = .ok (.lreturn, 1)) (e1 : w = v) (e2 : σ' = σ) : ax_S x Y ad 0 0 (ax_Q x Y ad (some (.long w)) 96 (ax_g Y ad σ') 0 0) σ pc L [.long v] := ax_lret C hr hd (by rw [e1]) (by rw [e2]) rfl rfl
theorem ax_vr (C : ax_C x Y i h 0 0) (hr : i.2.2.2 = none) (hd : decode i.2.1 pc = .ok (.return_, 1)) (e2 : σ' = σ) : ax_S x Y ad 0 0 (ax_Q x Y ad none 96 (ax_g Y ad σ') 0 0) σ pc L [] := ax_vret C hr hd rfl (by rw [e2]) rfl rfl
theorem ax_ar (C : ax_C x Y i h 0 0) {v : Nat} {n0 : String} (hr : i.2.2.2 = some (.object n0)) (hd : decode i.2.1 pc = .ok (.areturn, 1)) (e2 : σ' = σ) : ax_S x Y ad 0 0 (ax_Q x Y ad (some (.ref v)) 96 (ax_g Y ad σ') 0 0) σ pc L [.ref v] := by
  subst e2
  exact fun H ls locs hP hD hS hL => W.aret C.exec C.bytes (C.ret.trans hr) (Or.inl ⟨_, rfl⟩) (Or.inr ⟨_, rfl⟩) (fun t ht hW => ⟨rfl, by rw [ht]; exact hP, by rw [ht]; exact ⟨hS.1, hS.2.1, fun _ h => by cases h⟩⟩) (fun q hq => hS.2.2 q hq) hd (hlocks := C.locks)
theorem ax_callSi (C : ax_C x Y i h mc ms) {v : Int32} (hM : ax_m Y ad x.1.2.1 j h' σ av (some (.int v)) σ') (cal : ax_calS j n) (lk : Cond.methodLink i.1.cls idx j.1 ∈ ax_tb) (hd : decode i.2.1 pc = .ok (.invokestatic idx, 3)) (hh : h' + 1 ≤ h) (hst : st = av.reverse ++ rest) (hn : av.length = n) (hw : (rest.map fun v => v.category).sum ≤ 8) (hnL : L.length = i.2.2.1) (hc : kc ≤ mc ∧ ks ≤ ms) (kk : ax_S x Y ad kc ks Q σ' (pc + 3) L (.int v :: rest)) : ax_S x Y ad kc ks Q σ pc L st := ax_callS C hM cal lk hd hh hst hn hw hnL hc kk
theorem ax_callSl (C : ax_C x Y i h mc ms) {v : Int64} (hM : ax_m Y ad x.1.2.1 j h' σ av (some (.long v)) σ') (cal : ax_calS j n) (lk : Cond.methodLink i.1.cls idx j.1 ∈ ax_tb) (hd : decode i.2.1 pc = .ok (.invokestatic idx, 3)) (hh : h' + 1 ≤ h) (hst : st = av.reverse ++ rest) (hn : av.length = n) (hw : (rest.map fun v => v.category).sum ≤ 8) (hnL : L.length = i.2.2.1) (hc : kc ≤ mc ∧ ks ≤ ms) (kk : ax_S x Y ad kc ks Q σ' (pc + 3) L (.long v :: rest)) : ax_S x Y ad kc ks Q σ pc L st := ax_callS C hM cal lk hd hh hst hn hw hnL hc kk
theorem ax_callSr (C : ax_C x Y i h mc ms) {v : Nat} (hM : ax_m Y ad x.1.2.1 j h' σ av (some (.ref v)) σ') (cal : ax_calS j n) (lk : Cond.methodLink i.1.cls idx j.1 ∈ ax_tb) (hd : decode i.2.1 pc = .ok (.invokestatic idx, 3)) (hh : h' + 1 ≤ h) (hst : st = av.reverse ++ rest) (hn : av.length = n) (hw : (rest.map fun v => v.category).sum ≤ 8) (hnL : L.length = i.2.2.1) (hc : kc ≤ mc ∧ ks ≤ ms) (kk : ax_S x Y ad kc ks Q σ' (pc + 3) L (.ref v :: rest)) : ax_S x Y ad kc ks Q σ pc L st := ax_callS C hM cal lk hd hh hst hn hw hnL hc kk
theorem ax_callSv (C : ax_C x Y i h mc ms) (hM : ax_m Y ad x.1.2.1 j h' σ av none σ') (cal : ax_calS j n) (lk : Cond.methodLink i.1.cls idx j.1 ∈ ax_tb) (hd : decode i.2.1 pc = .ok (.invokestatic idx, 3)) (hh : h' + 1 ≤ h) (hst : st = av.reverse ++ rest) (hn : av.length = n) (hw : (rest.map fun v => v.category).sum ≤ 8) (hnL : L.length = i.2.2.1) (hc : kc ≤ mc ∧ ks ≤ ms) (kk : ax_S x Y ad kc ks Q σ' (pc + 3) L (rest)) : ax_S x Y ad kc ks Q σ pc L st := ax_callS C hM cal lk hd hh hst hn hw hnL hc kk
theorem ax_callNi (C : ax_C x Y i h mc ms) {v : Int32} {host : String} (hM : ax_m Y ad x.1.2.1 j h' σ av (some (.int v)) σ') (cal : ax_calS j n) (lk : Cond.methodLinkNest i.1.cls idx j.1 host ∈ lw_tbl) (hd : decode i.2.1 pc = .ok (.invokestatic idx, 3)) (hh : h' + 1 ≤ h) (hst : st = av.reverse ++ rest) (hn : av.length = n) (hw : (rest.map fun v => v.category).sum ≤ 8) (hnL : L.length = i.2.2.1) (hc : kc ≤ mc ∧ ks ≤ ms) (kk : ax_S x Y ad kc ks Q σ' (pc + 3) L (.int v :: rest)) : ax_S x Y ad kc ks Q σ pc L st := ax_callN C hM cal lk hd hh hst hn hw hnL hc kk
theorem ax_callNl (C : ax_C x Y i h mc ms) {v : Int64} {host : String} (hM : ax_m Y ad x.1.2.1 j h' σ av (some (.long v)) σ') (cal : ax_calS j n) (lk : Cond.methodLinkNest i.1.cls idx j.1 host ∈ lw_tbl) (hd : decode i.2.1 pc = .ok (.invokestatic idx, 3)) (hh : h' + 1 ≤ h) (hst : st = av.reverse ++ rest) (hn : av.length = n) (hw : (rest.map fun v => v.category).sum ≤ 8) (hnL : L.length = i.2.2.1) (hc : kc ≤ mc ∧ ks ≤ ms) (kk : ax_S x Y ad kc ks Q σ' (pc + 3) L (.long v :: rest)) : ax_S x Y ad kc ks Q σ pc L st := ax_callN C hM cal lk hd hh hst hn hw hnL hc kk
theorem ax_callNr (C : ax_C x Y i h mc ms) {v : Nat} {host : String} (hM : ax_m Y ad x.1.2.1 j h' σ av (some (.ref v)) σ') (cal : ax_calS j n) (lk : Cond.methodLinkNest i.1.cls idx j.1 host ∈ lw_tbl) (hd : decode i.2.1 pc = .ok (.invokestatic idx, 3)) (hh : h' + 1 ≤ h) (hst : st = av.reverse ++ rest) (hn : av.length = n) (hw : (rest.map fun v => v.category).sum ≤ 8) (hnL : L.length = i.2.2.1) (hc : kc ≤ mc ∧ ks ≤ ms) (kk : ax_S x Y ad kc ks Q σ' (pc + 3) L (.ref v :: rest)) : ax_S x Y ad kc ks Q σ pc L st := ax_callN C hM cal lk hd hh hst hn hw hnL hc kk
theorem ax_callNv (C : ax_C x Y i h mc ms) {host : String} (hM : ax_m Y ad x.1.2.1 j h' σ av none σ') (cal : ax_calS j n) (lk : Cond.methodLinkNest i.1.cls idx j.1 host ∈ lw_tbl) (hd : decode i.2.1 pc = .ok (.invokestatic idx, 3)) (hh : h' + 1 ≤ h) (hst : st = av.reverse ++ rest) (hn : av.length = n) (hw : (rest.map fun v => v.category).sum ≤ 8) (hnL : L.length = i.2.2.1) (hc : kc ≤ mc ∧ ks ≤ ms) (kk : ax_S x Y ad kc ks Q σ' (pc + 3) L (rest)) : ax_S x Y ad kc ks Q σ pc L st := ax_callN C hM cal lk hd hh hst hn hw hnL hc kk
theorem ax_callVi (C : ax_C x Y i h mc ms) {v : Int32} {k ci : Nat} {fl : List (Option Nat)} {q : vw_C} {avs : List Value} (hM : ax_m Y ad x.1.2.1 j h' σ (.ref (ad k) :: avs) (some (.int v)) σ') (cal : ax_calV j n) (lk : Cond.methodLink i.1.cls idx j.1 ∈ ax_tb) (hd : decode i.2.1 pc = .ok (.invokevirtual idx, 3)) (hh : h' + 1 ≤ h) (hst : st = avs.reverse ++ .ref (ad k) :: rest) (hs : ax_sh k = .inr (ci, fl)) (hq : vwCl[ci]? = some q) (hqc : q.1 = j.1.cls) (hn : avs.length = n) (hw : (rest.map fun v => v.category).sum ≤ 8) (hnL : L.length = i.2.2.1) (hc : kc ≤ mc ∧ ks ≤ ms) (kk : ax_S x Y ad kc ks Q σ' (pc + 3) L (.int v :: rest)) : ax_S x Y ad kc ks Q σ pc L st := ax_callV C hM cal lk hd hh hst hs hq hqc hn hw hnL hc kk
theorem ax_callVl (C : ax_C x Y i h mc ms) {v : Int64} {k ci : Nat} {fl : List (Option Nat)} {q : vw_C} {avs : List Value} (hM : ax_m Y ad x.1.2.1 j h' σ (.ref (ad k) :: avs) (some (.long v)) σ') (cal : ax_calV j n) (lk : Cond.methodLink i.1.cls idx j.1 ∈ ax_tb) (hd : decode i.2.1 pc = .ok (.invokevirtual idx, 3)) (hh : h' + 1 ≤ h) (hst : st = avs.reverse ++ .ref (ad k) :: rest) (hs : ax_sh k = .inr (ci, fl)) (hq : vwCl[ci]? = some q) (hqc : q.1 = j.1.cls) (hn : avs.length = n) (hw : (rest.map fun v => v.category).sum ≤ 8) (hnL : L.length = i.2.2.1) (hc : kc ≤ mc ∧ ks ≤ ms) (kk : ax_S x Y ad kc ks Q σ' (pc + 3) L (.long v :: rest)) : ax_S x Y ad kc ks Q σ pc L st := ax_callV C hM cal lk hd hh hst hs hq hqc hn hw hnL hc kk
theorem ax_callVr (C : ax_C x Y i h mc ms) {v : Nat} {k ci : Nat} {fl : List (Option Nat)} {q : vw_C} {avs : List Value} (hM : ax_m Y ad x.1.2.1 j h' σ (.ref (ad k) :: avs) (some (.ref v)) σ') (cal : ax_calV j n) (lk : Cond.methodLink i.1.cls idx j.1 ∈ ax_tb) (hd : decode i.2.1 pc = .ok (.invokevirtual idx, 3)) (hh : h' + 1 ≤ h) (hst : st = avs.reverse ++ .ref (ad k) :: rest) (hs : ax_sh k = .inr (ci, fl)) (hq : vwCl[ci]? = some q) (hqc : q.1 = j.1.cls) (hn : avs.length = n) (hw : (rest.map fun v => v.category).sum ≤ 8) (hnL : L.length = i.2.2.1) (hc : kc ≤ mc ∧ ks ≤ ms) (kk : ax_S x Y ad kc ks Q σ' (pc + 3) L (.ref v :: rest)) : ax_S x Y ad kc ks Q σ pc L st := ax_callV C hM cal lk hd hh hst hs hq hqc hn hw hnL hc kk
theorem ax_callVv (C : ax_C x Y i h mc ms) {k ci : Nat} {fl : List (Option Nat)} {q : vw_C} {avs : List Value} (hM : ax_m Y ad x.1.2.1 j h' σ (.ref (ad k) :: avs) none σ') (cal : ax_calV j n) (lk : Cond.methodLink i.1.cls idx j.1 ∈ ax_tb) (hd : decode i.2.1 pc = .ok (.invokevirtual idx, 3)) (hh : h' + 1 ≤ h) (hst : st = avs.reverse ++ .ref (ad k) :: rest) (hs : ax_sh k = .inr (ci, fl)) (hq : vwCl[ci]? = some q) (hqc : q.1 = j.1.cls) (hn : avs.length = n) (hw : (rest.map fun v => v.category).sum ≤ 8) (hnL : L.length = i.2.2.1) (hc : kc ≤ mc ∧ ks ≤ ms) (kk : ax_S x Y ad kc ks Q σ' (pc + 3) L (rest)) : ax_S x Y ad kc ks Q σ pc L st := ax_callV C hM cal lk hd hh hst hs hq hqc hn hw hnL hc kk
theorem ax_iae (C : ax_C x Y i h mc ms) {k m c : Nat} {a : Int32} (hd : decode i.2.1 pc = .ok (.iaload, 1)) (hs : ax_sh k = .inl (0, m)) (ha : a = nI c) (hc : c < m) (hm : m < 2000) (kk : ax_S x Y ad kc ks Q σ (pc + 1) L (.int (σ k c) :: st)) : ax_S x Y ad kc ks Q σ pc L (.int a :: .ref (ad k) :: st) := by
  subst ha
  exact ax_ian C hd hs hc hm kk
theorem ax_ise (C : ax_C x Y i h mc ms) {k m c : Nat} {a v : Int32} (hd : decode i.2.1 pc = .ok (.iastore, 1)) (hs : ax_sh k = .inl (0, m)) (ha : a = nI c) (hc : c < m) (hm : m < 2000) (kk : ax_S x Y ad kc ks Q (ax_up σ k c v) (pc + 1) L st) : ax_S x Y ad kc ks Q σ pc L (.int v :: .int a :: .ref (ad k) :: st) := by
  subst ha
  exact ax_isn C hd hs hc hm kk
theorem ax_val (C : ax_C x Y i h mc ms) {a b : Int32} (e : a = b) (kk : ax_S x Y ad kc ks Q σ pc L (.int b :: st)) : ax_S x Y ad kc ks Q σ pc L (.int a :: st) := by
  subst e
  exact kk
end AXH
end
section
/-! small words for contracts -/
def ax_b (q : Prop) [Decidable q] : Int32 := if q then 1 else 0
theorem ax_b1 {q : Prop} [Decidable q] (h : q) : ax_b q = 1 := if_pos h
theorem ax_b0 {q : Prop} [Decidable q] (h : ¬ q) : ax_b q = 0 := if_neg h
theorem ax_bne {q : Prop} [Decidable q] (h : ¬ ax_b q = 0) : q := by
  by_cases hq : q
  · exact hq
  · exact absurd (ax_b0 hq) h
theorem ax_beq {q : Prop} [Decidable q] (h : ax_b q = 0) : ¬ q := fun hq => by
  rw [ax_b1 hq] at h
  exact absurd h (by decide)
theorem ax_bcong {q r : Prop} [Decidable q] [Decidable r] (h : q ↔ r) : ax_b q = ax_b r := by
  unfold ax_b
  by_cases hq : q
  · rw [if_pos hq, if_pos (h.mp hq)]
  · rw [if_neg hq, if_neg (fun z => hq (h.mpr z))]
/-- where a Pass lies: the draft's, now, the day's, the images' -/
def ax_isP (p : Nat) : Prop := p = 4 ∨ p = 14 ∨ p = 29 ∨ p = 57 ∨ p = 67
theorem ax_isP.o {p : Nat} (h : ax_isP p) : ax_sh p = .inr (3, [some (p + 1), some (p + 2), some (p + 3), some (p + 4), some (p + 5), some (p + 6), some (p + 7), some (p + 8), some (p + 9), none, none, none]) := by
  rcases h with rfl | rfl | rfl | rfl | rfl <;> rfl
theorem ax_isP.a1 {p : Nat} (h : ax_isP p) : ax_sh (p + 1) = .inl (0, 6) := by
  rcases h with rfl | rfl | rfl | rfl | rfl <;> rfl
theorem ax_isP.a2 {p : Nat} (h : ax_isP p) : ax_sh (p + 2) = .inl (0, 7) := by
  rcases h with rfl | rfl | rfl | rfl | rfl <;> rfl
theorem ax_isP.a3 {p : Nat} (h : ax_isP p) : ax_sh (p + 3) = .inl (0, 7) := by
  rcases h with rfl | rfl | rfl | rfl | rfl <;> rfl
theorem ax_isP.a4 {p : Nat} (h : ax_isP p) : ax_sh (p + 4) = .inl (0, 7) := by
  rcases h with rfl | rfl | rfl | rfl | rfl <;> rfl
theorem ax_isP.a5 {p : Nat} (h : ax_isP p) : ax_sh (p + 5) = .inl (0, 7) := by
  rcases h with rfl | rfl | rfl | rfl | rfl <;> rfl
theorem ax_isP.a6 {p : Nat} (h : ax_isP p) : ax_sh (p + 6) = .inl (0, 7) := by
  rcases h with rfl | rfl | rfl | rfl | rfl <;> rfl
theorem ax_isP.a7 {p : Nat} (h : ax_isP p) : ax_sh (p + 7) = .inl (0, 7) := by
  rcases h with rfl | rfl | rfl | rfl | rfl <;> rfl
theorem ax_isP.a8 {p : Nat} (h : ax_isP p) : ax_sh (p + 8) = .inl (0, 7) := by
  rcases h with rfl | rfl | rfl | rfl | rfl <;> rfl
theorem ax_isP.a9 {p : Nat} (h : ax_isP p) : ax_sh (p + 9) = .inl (0, 12) := by
  rcases h with rfl | rfl | rfl | rfl | rfl <;> rfl
theorem ax_imgP {k : Nat} (h : k < 2) : ax_isP (57 + 10 * k) := by
  rcases (show k = 0 ∨ k = 1 by omega) with rfl | rfl
  · exact Or.inr (Or.inr (Or.inr (Or.inl rfl)))
  · exact Or.inr (Or.inr (Or.inr (Or.inr rfl)))
theorem ax_lt8 {P : Nat → Prop} (h0 : P 0) (h1 : P 1) (h2 : P 2) (h3 : P 3) (h4 : P 4) (h5 : P 5) (h6 : P 6) (h7 : P 7) {c : Nat} (h : c < 8) : P c := by
  match c, h with
  | 0, _ => exact h0
  | 1, _ => exact h1
  | 2, _ => exact h2
  | 3, _ => exact h3
  | 4, _ => exact h4
  | 5, _ => exact h5
  | 6, _ => exact h6
  | 7, _ => exact h7
theorem ax_rowO {c : Nat} (h : c < 8) : ax_sh (41 + 2 * c) = .inr (5, [some (42 + 2 * c), none, none, none]) := ax_lt8 (P := fun c => ax_sh (41 + 2 * c) = .inr (5, [some (42 + 2 * c), none, none, none])) rfl rfl rfl rfl rfl rfl rfl rfl h
theorem ax_rowA {c : Nat} (h : c < 8) : ax_sh (42 + 2 * c) = .inl (0, 40) := ax_lt8 (P := fun c => ax_sh (42 + 2 * c) = .inl (0, 40)) rfl rfl rfl rfl rfl rfl rfl rfl h
theorem ax_now : ax_isP 14 := Or.inr (Or.inl rfl)
theorem ax_day : ax_isP 29 := Or.inr (Or.inr (Or.inl rfl))
theorem ax_dra : ax_isP 4 := Or.inl rfl
end
section
/-! sets of carts as bits -/
def ms_k (f : Nat → Bool) : Nat → Nat
  | 0 => 0
  | n + 1 => ms_k f n + (if f n = true then 2 ^ n else 0)
def ms_c (f : Nat → Bool) : Nat → Nat
  | 0 => 0
  | n + 1 => ms_c f n + (if f n = true then 1 else 0)
theorem ms_lt (f : Nat → Bool) (n : Nat) : ms_k f n < 2 ^ n := by
  induction n with
  | zero => exact Nat.one_pos
  | succ n ih =>
    unfold ms_k
    have : 2 ^ (n + 1) = 2 ^ n + 2 ^ n := by rw [Nat.pow_succ]; omega
    split <;> omega
theorem ms_bit (f : Nat → Bool) (n i : Nat) : (ms_k f n).testBit i = (decide (i < n) && f i) := by
  induction n with
  | zero => simp [ms_k]
  | succ n ih =>
    unfold ms_k
    have hl := ms_lt f n
    by_cases hf : f n = true
    · rw [if_pos hf, Nat.add_comm]
      rcases Nat.lt_trichotomy i n with h | h | h
      · rw [Nat.testBit_two_pow_add_gt h, ih]
        simp [h, Nat.lt_succ_of_lt h]
      · subst h
        rw [Nat.testBit_two_pow_add_eq, ih]
        simp [hf]
      · rw [Nat.testBit_lt_two_pow]
        · have : ¬ i < n + 1 := by omega
          simp [this]
        · have h1 : 2 ^ (n + 1) ≤ 2 ^ i := Nat.pow_le_pow_right (by decide) h
          have : 2 ^ (n + 1) = 2 ^ n + 2 ^ n := by rw [Nat.pow_succ]; omega
          omega
    · rw [if_neg hf, Nat.add_zero, ih]
      by_cases h : i = n
      · subst h
        simp at hf
        simp [hf]
      · have : (i < n) = (i < n + 1) := by simp; omega
        simp [this]
theorem ms_or (f g : Nat → Bool) (n : Nat) : ms_k f n ||| ms_k g n = ms_k (fun c => f c || g c) n := by
  apply Nat.eq_of_testBit_eq
  intro i
  rw [Nat.testBit_or, ms_bit, ms_bit, ms_bit]
  cases decide (i < n) <;> simp
theorem ms_and (f g : Nat → Bool) (n : Nat) : ms_k f n &&& ms_k g n = ms_k (fun c => f c && g c) n := by
  apply Nat.eq_of_testBit_eq
  intro i
  rw [Nat.testBit_and, ms_bit, ms_bit, ms_bit]
  cases decide (i < n) <;> simp
theorem ms_congr {f g : Nat → Bool} {n : Nat} (h : ∀ c, c < n → f c = g c) : ms_k f n = ms_k g n := by
  induction n with
  | zero => rfl
  | succ n ih =>
    unfold ms_k
    rw [ih (fun c hc => h c (by omega)), h n (by omega)]
theorem ms_c_congr {f g : Nat → Bool} {n : Nat} (h : ∀ c, c < n → f c = g c) : ms_c f n = ms_c g n := by
  induction n with
  | zero => rfl
  | succ n ih =>
    unfold ms_c
    rw [ih (fun c hc => h c (by omega)), h n (by omega)]
theorem ms_c_le (f : Nat → Bool) (n : Nat) : ms_c f n ≤ n := by
  induction n with
  | zero => exact Nat.le_refl 0
  | succ n ih =>
    unfold ms_c
    split <;> omega
theorem nI_or (a b : Nat) : nI a ||| nI b = nI (a ||| b) := by
  apply Int32.toBitVec_inj.mp
  show BitVec.ofNat 32 a ||| BitVec.ofNat 32 b = BitVec.ofNat 32 (a ||| b)
  exact BitVec.ofNat_or.symm
theorem nI_and (a b : Nat) : nI a &&& nI b = nI (a &&& b) := by
  apply Int32.toBitVec_inj.mp
  show BitVec.ofNat 32 a &&& BitVec.ofNat 32 b = BitVec.ofNat 32 (a &&& b)
  exact BitVec.ofNat_and.symm
theorem ms_one {c : Nat} (h : c < 16) : (1 : Int32) <<< (nI c &&& 31) = nI (2 ^ c) := by
  have : ∀ c : Fin 16, (1 : Int32) <<< (nI c.1 &&& 31) = nI (2 ^ c.1) := by decide
  exact this ⟨c, h⟩
theorem ms_add {f : Nat → Bool} {c : Nat} (h : c < 16) (hf : f c = true) : nI (ms_k f c) ||| ((1 : Int32) <<< (nI c &&& 31)) = nI (ms_k f (c + 1)) := by
  rw [ms_one h, nI_or]
  congr 1
  have hl := ms_lt f c
  conv => rhs; unfold ms_k
  have e := Nat.two_pow_add_eq_or_of_lt hl 1
  rw [Nat.mul_one] at e
  rw [if_pos hf, Nat.or_comm, ← e, Nat.add_comm]
theorem ms_skip {f : Nat → Bool} {c : Nat} (hf : ¬ f c = true) : ms_k f (c + 1) = ms_k f c := by
  conv => lhs; unfold ms_k
  rw [if_neg hf]
  rfl
theorem ms_shr {c : Nat} (h : c < 16) : (((nI c &&& 31 : Int32)).toBitVec.smod 32).toNat = c := by
  have : ∀ c : Fin 16, (((nI c.1 &&& 31 : Int32)).toBitVec.smod 32).toNat = c.1 := by decide
  exact this ⟨c, h⟩
theorem ms_test {f : Nat → Bool} {c n : Nat} (hc : c < n) (hn : n ≤ 16) : (nI (ms_k f n) >>> (nI c &&& 31)) &&& 1 = (if f c = true then 1 else 0) := by
  have hl := ms_lt f n
  have h2 : 2 ^ n ≤ 2 ^ 16 := Nat.pow_le_pow_right (by decide) hn
  have hb := ms_bit f n c
  rw [Nat.testBit_eq_decide_div_mod_eq] at hb
  rw [pk_shrN (by omega) _ c (ms_shr (by omega)), pk_andN (Nat.lt_of_le_of_lt (Nat.div_le_self _ _) (by omega)) 1 (by decide)]
  simp only [hc, decide_true, Bool.true_and] at hb
  by_cases hf : f c = true
  · rw [if_pos hf]
    rw [hf] at hb
    rw [show ms_k f n / 2 ^ c % 2 ^ 1 = 1 by simpa using hb]
    rfl
  · rw [if_neg hf]
    simp only [hf] at hb
    have h3 : ms_k f n / 2 ^ c % 2 = 0 := by
      have := Nat.mod_two_eq_zero_or_one (ms_k f n / 2 ^ c)
      rcases this with h | h
      · exact h
      · rw [h] at hb; simp at hb
    rw [show ms_k f n / 2 ^ c % 2 ^ 1 = 0 by simpa using h3]
    rfl
theorem ms_zero {f : Nat → Bool} {n : Nat} (hn : n ≤ 16) : nI (ms_k f n) = 0 ↔ ∀ c, c < n → f c = false := by
  have hl := ms_lt f n
  have h2 : 2 ^ n ≤ 2 ^ 16 := Nat.pow_le_pow_right (by decide) hn
  rw [show (0 : Int32) = nI 0 from rfl, nI_eq (by omega) (by decide)]
  constructor
  · intro h c hc
    have hb := ms_bit f n c
    rw [h] at hb
    simpa [hc] using hb.symm
  · intro h
    apply Nat.eq_of_testBit_eq
    intro i
    rw [ms_bit, Nat.zero_testBit]
    by_cases hi : i < n
    · simp [hi, h i hi]
    · simp [hi]
end
section
/-! Math.min, arraycopy, wide constants; equal states -/
theorem mi_code : Cond.code Lib.Math.min.name Lib.Math.min.code 2 (some .int) ∈ ax_tb := ax_in 449 (by decide +kernel) rfl
theorem mi_stat : Cond.static Lib.Math.min.name ∈ ax_tb := ax_in 448 (by decide +kernel) rfl
theorem mi_init : Cond.initialized "java/lang/Math" ∈ ax_tb := ax_in 49 (by decide +kernel) rfl
theorem mi_X3 : Cond.methodLink RX3 54 Lib.Math.min.name ∈ ax_tb := ax_in 447 (by decide +kernel) rfl
theorem mi_X2 : Cond.methodLink RX2 58 Lib.Math.min.name ∈ ax_tb := ax_in 632 (by decide +kernel) rfl
theorem ac_stat : Cond.static arraycopyName ∈ ax_tb := ax_in 311 (by decide +kernel) rfl
theorem ac_nat : Cond.native arraycopyName ∈ ax_tb := ax_in 312 (by decide +kernel) rfl
theorem ac_init : Cond.initialized "java/lang/System" ∈ ax_tb := ax_in 44 (by decide +kernel) rfl
theorem ac_X6 : Cond.methodLink RX6 94 arraycopyName ∈ ax_tb := ax_in 310 (by decide +kernel) rfl
theorem ac_X3 : Cond.methodLink RX3 60 arraycopyName ∈ ax_tb := ax_in 450 (by decide +kernel) rfl
theorem ac_X0 : Cond.methodLink RX0 22 arraycopyName ∈ ax_tb := ax_in 464 (by decide +kernel) rfl
/-- cells from one row of numbers to another one -/
def ax_cp (σ : ax_Z) (k0 k1 s d n : Nat) : ax_Z := fun a => if a = k1 then va_cpy (σ k0) (σ k1) s d n else σ a
section AXR
variable {x : ax_T} {Y : ax_Y} {ad : Nat → Nat} {i : ax_I} {h mc ms kc ks pc : Nat} {Q : State → Prop} {σ σ' : ax_Z} {L L' : List (Option Value)} {st st' rest : List Value} {idx : Nat}
theorem ax_Leq (e : L = L') (kk : ax_S x Y ad kc ks Q σ pc L' st) : ax_S x Y ad kc ks Q σ pc L st := by
  subst e
  exact kk
theorem ax_SLeq (e0 : σ = σ') (e : L = L') (kk : ax_S x Y ad kc ks Q σ' pc L' st) : ax_S x Y ad kc ks Q σ pc L st := by
  subst e; subst e0
  exact kk
theorem ax_Seq (e0 : σ = σ') (kk : ax_S x Y ad kc ks Q σ' pc L st) : ax_S x Y ad kc ks Q σ pc L st := by
  subst e0
  exact kk
theorem ax_steq (e : st = st') (kk : ax_S x Y ad kc ks Q σ pc L st') : ax_S x Y ad kc ks Q σ pc L st := by
  subst e
  exact kk
theorem ax_min (C : ax_C x Y i h mc ms) {a b : Int32} (hh : 1 ≤ h) (lk : Cond.methodLink i.1.cls idx Lib.Math.min.name ∈ ax_tb) (hd : decode i.2.1 pc = .ok (.invokestatic idx, 3)) (hw : (st.map fun v => v.category).sum ≤ 8) (hnL : L.length = i.2.2.1) (hc : kc ≤ mc ∧ ks ≤ ms)
    (kk : ax_S x Y ad kc ks Q σ (pc + 3) L (.int (if b < a then b else a) :: st)) : ax_S x Y ad kc ks Q σ pc L (.int b :: .int a :: st) := by
  obtain ⟨q1, q2, q3, q4⟩ := C.room
  intro H ls locs hP hD hS hL
  exact va_mmin C.exec C.bytes (C.maxL.trans (hnL.symm.trans hL.1.symm)) C.own (C.hts _ lk) (C.hts _ mi_stat) (C.hts _ mi_init) (C.hts _ mi_code) (Nat.le_trans hh q1) (by omega) (by omega) (by omega) hd (kk H ls locs hP hD hS hL)
theorem ax_ldcw (C : ax_C x Y i h mc ms) {n : Nat} {v : Int32} (hd : decode i.2.1 pc = .ok (.ldc_w n, 3)) (hc : Cond.constant i.1.cls n v ∈ ax_tb) (kk : ax_S x Y ad kc ks Q σ (pc + 3) L (.int v :: st)) : ax_S x Y ad kc ks Q σ pc L st := ax_lift (fun _ _ _ k => lv_ldcw C.exec C.bytes C.own (C.hts _ hc) hd k) kk
theorem ax_g_row {k : Nat} {f : Nat → Int32} {e : va_E} (he : ax_cel Y.2.1 ad (ax_sh k) f = e) : va_up (ax_g Y ad σ) k e = ax_g Y ad (fun a => if a = k then f else σ a) := by
  funext a
  by_cases hq : a = k
  · subst hq
    simp only [va_up, if_true, ax_g]
    exact he.symm
  · simp only [va_up, if_neg hq, ax_g]
theorem ax_copy (C : ax_C x Y i h mc ms) {k0 k1 n0 n1 s d n : Nat} (hh : 1 ≤ h) (lk : Cond.methodLink i.1.cls idx arraycopyName ∈ ax_tb) (hd : decode i.2.1 pc = .ok (.invokestatic idx, 3)) (hs0 : ax_sh k0 = .inl (0, n0)) (hs1 : ax_sh k1 = .inl (0, n1)) (l0 : s + n ≤ n0) (l1 : d + n ≤ n1) (m0 : n0 < 2000) (m1 : n1 < 2000) (hw : (st.map fun v => v.category).sum ≤ 8) (hnL : L.length = i.2.2.1)
    (kk : ax_S x Y ad kc ks Q (ax_cp σ k0 k1 s d n) (pc + 3) L st) : ax_S x Y ad kc ks Q σ pc L (.int (nI n) :: .int (nI d) :: .ref (ad k1) :: .int (nI s) :: .ref (ad k0) :: st) := by
  obtain ⟨q1, q2, q3, q4⟩ := C.room
  intro H ls locs hP hD hS hL
  refine va_copyi (ty := .int) C.exec C.bytes (C.maxL.trans (hnL.symm.trans hL.1.symm)) C.own (C.hts _ lk) (C.hts _ ac_nat) (C.hts _ ac_stat) (C.hts _ ac_init) C.hK hP hD hS k0 k1 0 0 (by rw [ax_hw_get (ax_sh_lt_a hs0 (by decide)), ax_g_arr hs0 (by decide)]) (by rw [ax_hw_get (ax_sh_lt_a hs1 (by decide)), ax_g_arr hs1 (by decide)]) rfl rfl rfl (nI_pos (by omega)) (nI_pos (by omega)) (nI_pos (by omega)) (by rw [nI_clamp (by omega), nI_clamp (by omega)]; exact l0) (by rw [nI_clamp (by omega), nI_clamp (by omega)]; exact l1) (fun _ _ => rfl) (Nat.le_trans hh q1) ?_ hd (fun H1 locs1 hP1 hD1 hS1 => ?_)
  · have e : nativeFrameWords "java/lang/System" "arraycopy" 5 + 11 ≤ 50 := by decide
    omega
  · rw [nI_clamp (by omega), nI_clamp (by omega), nI_clamp (by omega)] at hP1 hD1
    have e : va_up (ax_g Y ad σ) k1 (.inl (Y.2.1 0, n1, .inl (va_cpy (σ k0) (σ k1) s d n))) = ax_g Y ad (ax_cp σ k0 k1 s d n) := ax_g_row (by rw [hs1]; exact ax_cel_arr (by decide))
    rw [ax_hw_set, e] at hP1 hD1
    exact kk H1 ls locs1 hP1 hD1 hS1 hL
end AXR
end
section
/-! the JDK's bitCount; an HOUR, told over rows of numbers -/
def jd_us (a b : Int32) : Int32 := (a.toUInt32 >>> (b.toUInt32 &&& Int32.toUInt32 31)).toInt32
def jd_b3 (v : Int32) : Int32 := (v + jd_us v 4) &&& 252645135
def jd_b2 (v : Int32) : Int32 := (v &&& 858993459) + (jd_us v 2 &&& 858993459)
def jd_b1 (v : Int32) : Int32 := v - (jd_us v 1 &&& 1431655765)
def jd_b4 (v : Int32) : Int32 := v + jd_us v 8
def jd_b5 (v : Int32) : Int32 := v + jd_us v 16
def jd_bc (v : Int32) : Int32 := jd_b5 (jd_b4 (jd_b3 (jd_b2 (jd_b1 v)))) &&& 63
theorem ms_c_s (f : Nat → Bool) (n : Nat) : ms_c f (n + 1) = ms_c f n + (if f n = true then 1 else 0) := rfl
theorem ms_c_cut (f : Nat → Bool) (n k : Nat) : ms_c (fun i => decide (i < n) && f i) k = ms_c f (min n k) := by
  induction k with
  | zero => simp [ms_c]
  | succ k ih =>
    rw [ms_c_s, ih]
    by_cases h : k < n
    · rw [show min n (k + 1) = k + 1 by omega, show min n k = k by omega, ms_c_s]
      simp [h]
    · rw [show min n (k + 1) = n by omega, show min n k = n by omega]
      simp [h]
theorem jd_bc_ms (f : Nat → Bool) {n : Nat} (hn : n ≤ 7) : jd_bc (nI (ms_k f n)) = nI (ms_c f n) := by
  have key : ∀ m : Fin 128, jd_bc (nI m.1) = nI (ms_c (fun i => m.1.testBit i) 7) := by decide +kernel
  have hl : ms_k f n < 128 := Nat.lt_of_lt_of_le (ms_lt f n) (Nat.pow_le_pow_right (by decide) hn : 2 ^ n ≤ 2 ^ 7)
  rw [key ⟨_, hl⟩]
  congr 1
  show ms_c (fun i => (ms_k f n).testBit i) 7 = _
  rw [show (fun i => (ms_k f n).testBit i) = (fun i => decide (i < n) && f i) from funext (fun i => ms_bit f n i), ms_c_cut, Nat.min_eq_left hn]
/-- numbers below n of row k become v -/
def ax_fill (σ : ax_Z) (k n : Nat) (v : Int32) : ax_Z := fun a b => if a = k ∧ b < n then v else σ a b
theorem ax_fill_0 {σ : ax_Z} {k : Nat} {v : Int32} : ax_fill σ k 0 v = σ := by
  funext a b
  simp [ax_fill]
theorem ax_fill_s {σ : ax_Z} {k n : Nat} {v : Int32} : ax_up (ax_fill σ k n v) k n v = ax_fill σ k (n + 1) v := by
  funext a b
  unfold ax_up ax_fill
  by_cases h1 : a = k
  · by_cases h2 : b = n
    · simp [h1, h2]
    · have : (b < n + 1) = (b < n) := by simp; omega
      simp [h1, h2, this]
  · simp [h1]
/-- the carts of a set: their numbers in row k become v -/
def hs_gone (σ : ax_Z) (k : Nat) (tr : Nat → Bool) (v : Int32) (n : Nat) : ax_Z := fun a b => if a = k ∧ b < n ∧ tr b = true then v else σ a b
theorem hs_gone_0 {σ : ax_Z} {k : Nat} {tr : Nat → Bool} {v : Int32} : hs_gone σ k tr v 0 = σ := by
  funext a b
  simp [hs_gone]
theorem hs_gone_t {σ : ax_Z} {k n : Nat} {tr : Nat → Bool} {v : Int32} (h : tr n = true) : ax_up (hs_gone σ k tr v n) k n v = hs_gone σ k tr v (n + 1) := by
  funext a b
  unfold ax_up hs_gone
  by_cases h1 : a = k
  · by_cases h2 : b = n
    · simp [h1, h2, h]
    · have : (b < n + 1) = (b < n) := by simp; omega
      simp [h1, h2, this]
  · simp [h1]
theorem hs_gone_f {σ : ax_Z} {k n : Nat} {tr : Nat → Bool} {v : Int32} (h : ¬ tr n = true) : hs_gone σ k tr v (n + 1) = hs_gone σ k tr v n := by
  funext a b
  unfold hs_gone
  by_cases h2 : b = n
  · subst h2
    simp [h]
  · have : (b < n + 1) = (b < n) := by simp; omega
    simp only [this]
def hs_st (come went : Nat → Int32) (hr : Int32) (c : Nat) : Bool := decide (come c ≤ hr) && decide (went c = -1000000)
/-- of a cart that stands, ahead of the last hour -/
def hs_r1 (kind come pat : Nat → Int32) (hr : Int32) (en : Bool) (c : Nat) : Bool :=
  if kind c = 5 then true else if kind c = 3 then false else if kind c = 2 then decide (come c + pat c ≤ hr) || en else decide (come c + pat c ≤ hr)
def hs_rd (kind come pat went : Nat → Int32) (hr : Int32) (n c : Nat) : Bool :=
  hs_st come went hr c && (decide (hr = 11) || hs_r1 kind come pat hr (decide (3 ≤ ms_c (hs_st come went hr) n)) c)
def hs_fo (kind : Nat → Int32) (c : Nat) : Bool := decide (kind c = 1) || decide (kind c = 2) || decide (kind c = 3)
def hs_tr (kind come pat went : Nat → Int32) (hr : Int32) (n c : Nat) : Bool := hs_rd kind come pat went hr n c || (hs_fo kind c && hs_st come went hr c)
def hs_ah (kind come tm : Nat → Int32) (c d : Nat) : Bool :=
  if decide (kind c = 3) ≠ decide (kind d = 3) then decide (kind d = 3) else if tm c ≠ tm d then decide (tm c < tm d) else decide (come c < come d)
def hs_f (rd : Nat → Bool) (ah : Nat → Nat → Bool) : Nat → Option Nat
  | 0 => none
  | n + 1 => match hs_f rd ah n with
    | none => if rd n = true then some n else none
    | some f => if rd n = true ∧ ah n f = true then some n else some f
theorem hs_f_lt {rd : Nat → Bool} {ah : Nat → Nat → Bool} {n f : Nat} (h : hs_f rd ah n = some f) : f < n ∧ rd f = true := by
  induction n generalizing f with
  | zero => cases h
  | succ n ih =>
    unfold hs_f at h
    split at h
    · split at h
      · next hr => cases h; exact ⟨Nat.lt_succ_self _, hr⟩
      · cases h
    · next g hg =>
      split at h
      · next hr => cases h; exact ⟨Nat.lt_succ_self _, hr.1⟩
      · cases h
        obtain ⟨h1, h2⟩ := ih hg
        exact ⟨by omega, h2⟩
theorem hs_f_none {rd : Nat → Bool} {ah : Nat → Nat → Bool} {n : Nat} : hs_f rd ah n = none ↔ ∀ c, c < n → rd c = false := by
  induction n with
  | zero => simp [hs_f]
  | succ n ih =>
    unfold hs_f
    split
    · next hg =>
      rw [ih] at hg
      constructor
      · intro h c hc
        by_cases e : c = n
        · subst e
          cases hr : rd c with
          | false => rfl
          | true => simp [hr] at h
        · exact hg c (by omega)
      · intro h
        simp [h n (by omega)]
    · next g hg =>
      constructor
      · intro h
        split at h <;> cases h
      · intro h
        obtain ⟨h1, h2⟩ := hs_f_lt hg
        rw [h g (by omega)] at h2
        cases h2
/-- the toll for k carts -/
def hs_toll (toll : Nat → Int32) (k : Nat) : Int32 := if k = 0 then 0 else toll (min k 6 - 1)
end
section
set_option maxRecDepth 20000 in
set_option maxHeartbeats 4000000 in
theorem w_X6_isWithin {Y : ax_Y} {ad : Nat → Nat} (F : ax_F Y) {l : Launch} {σ : ax_Z} {v a b : Int32} : ax_m Y ad l iX6_isWithin 0 σ [.int v, .int a, .int b] (some (.int (ax_b (a ≤ v ∧ v ≤ b)))) σ := by
  refine ax_m.of F kX6_isWithin.1 [some (.int v), some (.int a), some (.int b)] rfl (Nat.le_of_ble_eq_true rfl) (fun x C => ?_)
  refine ax_iload_0 (pc := 0) C dX6_isWithin_0 ?_
  refine ax_iload_1 (pc := 1) C dX6_isWithin_1 ?_
  refine ax_icmp_lt (pc := 2) (tgt := 14) C dX6_isWithin_2 (by decide) (fun h2 => ?_) (fun h2 => ?_)
  · refine ax_iconst (pc := 14) (v := 0) C dX6_isWithin_14 (by decide) ?_
    exact ax_zr (pc := 15) C rfl rfl dX6_isWithin_15 (by simp_all [ax_b, ← Int32.not_lt]) rfl
  · refine ax_iload_0 (pc := 5) C dX6_isWithin_5 ?_
    refine ax_iload_2 (pc := 6) C dX6_isWithin_6 ?_
    refine ax_icmp_gt (pc := 7) (tgt := 14) C dX6_isWithin_7 (by decide) (fun h7 => ?_) (fun h7 => ?_)
    · refine ax_iconst (pc := 14) (v := 0) C dX6_isWithin_14 (by decide) ?_
      exact ax_zr (pc := 15) C rfl rfl dX6_isWithin_15 (by simp_all [ax_b, ← Int32.not_lt]) rfl
    · refine ax_iconst (pc := 10) (v := 1) C dX6_isWithin_10 (by decide) ?_
      refine ax_goto (pc := 11) (tgt := 15) C dX6_isWithin_11 (by decide) ?_
      exact ax_zr (pc := 15) C rfl rfl dX6_isWithin_15 (by simp_all [ax_b, ← Int32.not_lt]) rfl

set_option maxRecDepth 20000 in
set_option maxHeartbeats 4000000 in
theorem w_X6_isRow {Y : ax_Y} {ad : Nat → Nat} (F : ax_F Y) {l : Launch} {σ : ax_Z} {v : Int32} : ax_m Y ad l iX6_isRow 1 σ [.int v] (some (.int (ax_b (0 ≤ v ∧ v ≤ 7)))) σ := by
  refine ax_m.of F kX6_isRow.1 [some (.int v)] rfl (Nat.le_of_ble_eq_true rfl) (fun x C => ?_)
  refine ax_iload_0 (pc := 0) C dX6_isRow_0 ?_
  refine ax_iconst (pc := 1) (v := 0) C dX6_isRow_1 (by decide) ?_
  refine ax_bipush (pc := 2) (v := 7) C dX6_isRow_2 (by decide) ?_
  refine ax_callSi (pc := 4) C (w_X6_isWithin F) kX6_isWithin mX6_59 dX6_isRow_4 (by decide) rfl rfl (Nat.le_of_ble_eq_true rfl) rfl ⟨Nat.le_refl _, Nat.le_refl _⟩ ?_
  exact ax_zr (pc := 7) C rfl (by unfold ax_b; split <;> rfl) dX6_isRow_7 rfl rfl

set_option maxRecDepth 20000 in
set_option maxHeartbeats 4000000 in
theorem w_X6_isHour {Y : ax_Y} {ad : Nat → Nat} (F : ax_F Y) {l : Launch} {σ : ax_Z} {v : Int32} : ax_m Y ad l iX6_isHour 1 σ [.int v] (some (.int (ax_b (0 ≤ v ∧ v ≤ 11)))) σ := by
  refine ax_m.of F kX6_isHour.1 [some (.int v)] rfl (Nat.le_of_ble_eq_true rfl) (fun x C => ?_)
  refine ax_iload_0 (pc := 0) C dX6_isHour_0 ?_
  refine ax_iconst (pc := 1) (v := 0) C dX6_isHour_1 (by decide) ?_
  refine ax_bipush (pc := 2) (v := 11) C dX6_isHour_2 (by decide) ?_
  refine ax_callSi (pc := 4) C (w_X6_isWithin F) kX6_isWithin mX6_59 dX6_isHour_4 (by decide) rfl rfl (Nat.le_of_ble_eq_true rfl) rfl ⟨Nat.le_refl _, Nat.le_refl _⟩ ?_
  exact ax_zr (pc := 7) C rfl (by unfold ax_b; split <;> rfl) dX6_isHour_7 rfl rfl

set_option maxRecDepth 20000 in
set_option maxHeartbeats 4000000 in
theorem w_X6_isCart {Y : ax_Y} {ad : Nat → Nat} (F : ax_F Y) {l : Launch} {σ : ax_Z} {v : Int32} : ax_m Y ad l iX6_isCart 1 σ [.ref (ad 0), .int v] (some (.int (ax_b (0 ≤ v ∧ v ≤ σ 14 10 - 1)))) σ := by
  refine ax_m.of F kX6_isCart.1 [some (.ref (ad 0)), some (.int v)] rfl (Nat.le_of_ble_eq_true rfl) (fun x C => ?_)
  refine ax_iload_1 (pc := 0) C dX6_isCart_0 ?_
  refine ax_iconst (pc := 1) (v := 0) C dX6_isCart_1 (by decide) ?_
  refine ax_aload_0 (pc := 2) C dX6_isCart_2 ?_
  refine ax_getR (pc := 3) C fX6_25 dX6_isCart_3 rfl rfl ?_
  refine ax_getI (pc := 6) C fX6_129 dX6_isCart_6 rfl rfl ?_
  refine ax_iconst (pc := 9) (v := 1) C dX6_isCart_9 (by decide) ?_
  refine ax_isub (pc := 10) C dX6_isCart_10 ?_
  refine ax_callSi (pc := 11) C (w_X6_isWithin F) kX6_isWithin mX6_59 dX6_isCart_11 (by decide) rfl rfl (Nat.le_of_ble_eq_true rfl) rfl ⟨Nat.le_refl _, Nat.le_refl _⟩ ?_
  exact ax_zr (pc := 14) C rfl (by unfold ax_b; split <;> rfl) dX6_isCart_14 rfl rfl

set_option maxRecDepth 20000 in
set_option maxHeartbeats 4000000 in
theorem w_X6_found {Y : ax_Y} {ad : Nat → Nat} (F : ax_F Y) {l : Launch} {σ : ax_Z} {v : Int32} : ax_m Y ad l iX6_found 0 σ [.ref (ad 0), .int v] (some (.int (-1000010 - v))) (ax_up σ 0 8 v) := by
  refine ax_m.of F kX6_found.1 [some (.ref (ad 0)), some (.int v)] rfl (Nat.le_of_ble_eq_true rfl) (fun x C => ?_)
  refine ax_aload_0 (pc := 0) C dX6_found_0 ?_
  refine ax_iload_1 (pc := 1) C dX6_found_1 ?_
  refine ax_putI (pc := 2) C fX6_72 dX6_found_2 rfl rfl rfl rfl ?_
  refine ax_ldc (pc := 5) C dX6_found_5 qX6_253 ?_
  refine ax_iload_1 (pc := 7) C dX6_found_7 ?_
  refine ax_isub (pc := 8) C dX6_found_8 ?_
  exact ax_ir (pc := 9) C rfl dX6_found_9 rfl rfl

set_option maxRecDepth 20000 in
set_option maxHeartbeats 4000000 in
theorem w_X6_fault {Y : ax_Y} {ad : Nat → Nat} (F : ax_F Y) {l : Launch} {σ : ax_Z} : ax_m Y ad l iX6_fault 0 σ [.ref (ad 0)] (some (.int (σ 0 7))) σ := by
  refine ax_m.of F kX6_fault.1 [some (.ref (ad 0))] rfl (Nat.le_of_ble_eq_true rfl) (fun x C => ?_)
  refine ax_aload_0 (pc := 0) C dX6_fault_0 ?_
  refine ax_getI (pc := 1) C fX6_116 dX6_fault_1 rfl rfl ?_
  exact ax_ir (pc := 4) C rfl dX6_fault_4 rfl rfl

set_option maxRecDepth 20000 in
set_option maxHeartbeats 4000000 in
theorem w_X6_status {Y : ax_Y} {ad : Nat → Nat} (F : ax_F Y) {l : Launch} {σ : ax_Z} : ax_m Y ad l iX6_status 0 σ [.ref (ad 0)] (some (.int (σ 0 8))) σ := by
  refine ax_m.of F kX6_status.1 [some (.ref (ad 0))] rfl (Nat.le_of_ble_eq_true rfl) (fun x C => ?_)
  refine ax_aload_0 (pc := 0) C dX6_status_0 ?_
  refine ax_getI (pc := 1) C fX6_72 dX6_status_1 rfl rfl ?_
  exact ax_ir (pc := 4) C rfl dX6_status_4 rfl rfl

set_option maxRecDepth 20000 in
set_option maxHeartbeats 4000000 in
theorem w_X5_hasPlaces {Y : ax_Y} {ad : Nat → Nat} (F : ax_F Y) {l : Launch} {σ : ax_Z} {c : Nat} (hc : c < 8) {a n : Int32} : ax_m Y ad l iX5_hasPlaces 0 σ [.ref (ad (41 + 2 * c)), .int a, .int n] (some (.int (ax_b (0 ≤ a ∧ 0 ≤ n ∧ a ≤ σ (41 + 2 * c) 3 ∧ n ≤ σ (41 + 2 * c) 3 - a)))) σ := by
  refine ax_m.of F kX5_hasPlaces.1 [some (.ref (ad (41 + 2 * c))), some (.int a), some (.int n)] rfl (Nat.le_of_ble_eq_true rfl) (fun x C => ?_)
  refine ax_iload_1 (pc := 0) C dX5_hasPlaces_0 ?_
  refine ax_if_lt (pc := 1) (tgt := 30) C dX5_hasPlaces_1 (by decide) (fun h1 => ?_) (fun h1 => ?_)
  · refine ax_iconst (pc := 30) (v := 0) C dX5_hasPlaces_30 (by decide) ?_
    exact ax_zr (pc := 31) C rfl rfl dX5_hasPlaces_31 (by simp_all [ax_b, ← Int32.not_lt]) rfl
  · refine ax_iload_2 (pc := 4) C dX5_hasPlaces_4 ?_
    refine ax_if_lt (pc := 5) (tgt := 30) C dX5_hasPlaces_5 (by decide) (fun h5 => ?_) (fun h5 => ?_)
    · refine ax_iconst (pc := 30) (v := 0) C dX5_hasPlaces_30 (by decide) ?_
      exact ax_zr (pc := 31) C rfl rfl dX5_hasPlaces_31 (by simp_all [ax_b, ← Int32.not_lt]) rfl
    · refine ax_iload_1 (pc := 8) C dX5_hasPlaces_8 ?_
      refine ax_aload_0 (pc := 9) C dX5_hasPlaces_9 ?_
      refine ax_getI (pc := 10) C fX5_29 dX5_hasPlaces_10 (ax_rowO hc) rfl ?_
      refine ax_icmp_gt (pc := 13) (tgt := 30) C dX5_hasPlaces_13 (by decide) (fun h13 => ?_) (fun h13 => ?_)
      · refine ax_iconst (pc := 30) (v := 0) C dX5_hasPlaces_30 (by decide) ?_
        exact ax_zr (pc := 31) C rfl rfl dX5_hasPlaces_31 (by simp_all [ax_b, ← Int32.not_lt]) rfl
      · refine ax_iload_2 (pc := 16) C dX5_hasPlaces_16 ?_
        refine ax_aload_0 (pc := 17) C dX5_hasPlaces_17 ?_
        refine ax_getI (pc := 18) C fX5_29 dX5_hasPlaces_18 (ax_rowO hc) rfl ?_
        refine ax_iload_1 (pc := 21) C dX5_hasPlaces_21 ?_
        refine ax_isub (pc := 22) C dX5_hasPlaces_22 ?_
        refine ax_icmp_gt (pc := 23) (tgt := 30) C dX5_hasPlaces_23 (by decide) (fun h23 => ?_) (fun h23 => ?_)
        · refine ax_iconst (pc := 30) (v := 0) C dX5_hasPlaces_30 (by decide) ?_
          exact ax_zr (pc := 31) C rfl rfl dX5_hasPlaces_31 (by simp_all [ax_b, ← Int32.not_lt]) rfl
        · refine ax_iconst (pc := 26) (v := 1) C dX5_hasPlaces_26 (by decide) ?_
          refine ax_goto (pc := 27) (tgt := 31) C dX5_hasPlaces_27 (by decide) ?_
          exact ax_zr (pc := 31) C rfl rfl dX5_hasPlaces_31 (by simp_all [ax_b, ← Int32.not_lt]) rfl

set_option maxRecDepth 20000 in
set_option maxHeartbeats 4000000 in
theorem w_X5_lowestBits {Y : ax_Y} {ad : Nat → Nat} (F : ax_F Y) {l : Launch} {σ : ax_Z} {c : Nat} (hc : c < 8) {v : Int32} : ax_m Y ad l iX5_lowestBits 0 σ [.ref (ad (41 + 2 * c)), .int v] (some (.int (if σ (41 + 2 * c) 2 = 0 then v.toInt8.toInt32 else if σ (41 + 2 * c) 2 = 1 then v.toInt16.toInt32 else v))) σ := by
  refine ax_m.of F kX5_lowestBits.1 [some (.ref (ad (41 + 2 * c))), some (.int v)] rfl (Nat.le_of_ble_eq_true rfl) (fun x C => ?_)
  refine ax_aload_0 (pc := 0) C dX5_lowestBits_0 ?_
  refine ax_getI (pc := 1) C fX5_25 dX5_lowestBits_1 (ax_rowO hc) rfl ?_
  refine ax_if_ne (pc := 4) (tgt := 10) C dX5_lowestBits_4 (by decide) (fun h4 => ?_) (fun h4 => ?_)
  · refine ax_aload_0 (pc := 10) C dX5_lowestBits_10 ?_
    refine ax_getI (pc := 11) C fX5_25 dX5_lowestBits_11 (ax_rowO hc) rfl ?_
    refine ax_iconst (pc := 14) (v := 1) C dX5_lowestBits_14 (by decide) ?_
    refine ax_icmp_ne (pc := 15) (tgt := 23) C dX5_lowestBits_15 (by decide) (fun h15 => ?_) (fun h15 => ?_)
    · refine ax_iload_1 (pc := 23) C dX5_lowestBits_23 ?_
      exact ax_ir (pc := 24) C rfl dX5_lowestBits_24 (by simp_all) rfl
    · refine ax_iload_1 (pc := 18) C dX5_lowestBits_18 ?_
      refine ax_i2s (pc := 19) C dX5_lowestBits_19 ?_
      refine ax_goto (pc := 20) (tgt := 24) C dX5_lowestBits_20 (by decide) ?_
      exact ax_ir (pc := 24) C rfl dX5_lowestBits_24 (by simp_all) rfl
  · refine ax_iload_1 (pc := 7) C dX5_lowestBits_7 ?_
    refine ax_i2b (pc := 8) C dX5_lowestBits_8 ?_
    exact ax_ir (pc := 9) C rfl dX5_lowestBits_9 (by simp_all) rfl

set_option maxRecDepth 20000 in
set_option maxHeartbeats 4000000 in
theorem w_X3_costOf {Y : ax_Y} {ad : Nat → Nat} (F : ax_F Y) {l : Launch} {σ : ax_Z} {p c : Nat} (hp : ax_isP p) (hc : c < 7) : ax_m Y ad l iX3_costOf 0 σ [.ref (ad p), .int (nI c)] (some (.int (if σ (p + 6) c = -1000000 then -1000000 else σ (p + 4) c * (σ (p + 6) c - σ (p + 3) c) + σ (p + 7) c))) σ := by
  refine ax_m.of F kX3_costOf.1 [some (.ref (ad p)), some (.int (nI c))] rfl (Nat.le_of_ble_eq_true rfl) (fun x C => ?_)
  refine ax_aload_0 (pc := 0) C dX3_costOf_0 ?_
  refine ax_getR (pc := 1) C fX3_27 dX3_costOf_1 hp.o rfl ?_
  refine ax_iload_1 (pc := 4) C dX3_costOf_4 ?_
  refine ax_ian (pc := 5) C dX3_costOf_5 hp.a6 (by omega) (by decide) ?_
  refine ax_ldc (pc := 6) C dX3_costOf_6 qX3_66 ?_
  refine ax_icmp_ne (pc := 8) (tgt := 16) C dX3_costOf_8 (by decide) (fun h8 => ?_) (fun h8 => ?_)
  · refine ax_aload_0 (pc := 16) C dX3_costOf_16 ?_
    refine ax_getR (pc := 17) C fX3_21 dX3_costOf_17 hp.o rfl ?_
    refine ax_iload_1 (pc := 20) C dX3_costOf_20 ?_
    refine ax_ian (pc := 21) C dX3_costOf_21 hp.a4 (by omega) (by decide) ?_
    refine ax_aload_0 (pc := 22) C dX3_costOf_22 ?_
    refine ax_getR (pc := 23) C fX3_27 dX3_costOf_23 hp.o rfl ?_
    refine ax_iload_1 (pc := 26) C dX3_costOf_26 ?_
    refine ax_ian (pc := 27) C dX3_costOf_27 hp.a6 (by omega) (by decide) ?_
    refine ax_aload_0 (pc := 28) C dX3_costOf_28 ?_
    refine ax_getR (pc := 29) C fX3_18 dX3_costOf_29 hp.o rfl ?_
    refine ax_iload_1 (pc := 32) C dX3_costOf_32 ?_
    refine ax_ian (pc := 33) C dX3_costOf_33 hp.a3 (by omega) (by decide) ?_
    refine ax_isub (pc := 34) C dX3_costOf_34 ?_
    refine ax_imul (pc := 35) C dX3_costOf_35 ?_
    refine ax_aload_0 (pc := 36) C dX3_costOf_36 ?_
    refine ax_getR (pc := 37) C fX3_30 dX3_costOf_37 hp.o rfl ?_
    refine ax_iload_1 (pc := 40) C dX3_costOf_40 ?_
    refine ax_ian (pc := 41) C dX3_costOf_41 hp.a7 (by omega) (by decide) ?_
    refine ax_iadd (pc := 42) C dX3_costOf_42 ?_
    exact ax_ir (pc := 43) C rfl dX3_costOf_43 (by simp_all) rfl
  · refine ax_ldc (pc := 11) C dX3_costOf_11 qX3_66 ?_
    refine ax_goto (pc := 13) (tgt := 43) C dX3_costOf_13 (by decide) ?_
    exact ax_ir (pc := 43) C rfl dX3_costOf_43 (by simp_all) rfl
end
section
set_option maxRecDepth 20000 in
set_option maxHeartbeats 4000000 in
theorem w_J6_bitCount_0f7a4 {Y : ax_Y} {ad : Nat → Nat} (F : ax_F Y) {l : Launch} {σ : ax_Z} {v : Int32} : ax_m Y ad l iJ6_bitCount_0f7a4 0 σ [.int v] (some (.int (jd_bc v))) σ := by
  refine ax_m.of F kJ6_bitCount_0f7a4.1 [some (.int v)] rfl (Nat.le_of_ble_eq_true rfl) (fun x C => ?_)
  refine ax_iload_0 (pc := 0) C dJ6_bitCount_0f7a4_0 ?_
  refine ax_iload_0 (pc := 1) C dJ6_bitCount_0f7a4_1 ?_
  refine ax_iconst (pc := 2) (v := 1) C dJ6_bitCount_0f7a4_2 (by decide) ?_
  refine ax_iushr (pc := 3) C dJ6_bitCount_0f7a4_3 ?_
  refine ax_ldcw (pc := 4) C dJ6_bitCount_0f7a4_4 qJ6_265 ?_
  refine ax_iand (pc := 7) C dJ6_bitCount_0f7a4_7 ?_
  refine ax_isub (pc := 8) C dJ6_bitCount_0f7a4_8 ?_
  refine ax_istore_0 (pc := 9) C dJ6_bitCount_0f7a4_9 ?_
  refine ax_iload_0 (pc := 10) C dJ6_bitCount_0f7a4_10 ?_
  refine ax_ldcw (pc := 11) C dJ6_bitCount_0f7a4_11 qJ6_266 ?_
  refine ax_iand (pc := 14) C dJ6_bitCount_0f7a4_14 ?_
  refine ax_iload_0 (pc := 15) C dJ6_bitCount_0f7a4_15 ?_
  refine ax_iconst (pc := 16) (v := 2) C dJ6_bitCount_0f7a4_16 (by decide) ?_
  refine ax_iushr (pc := 17) C dJ6_bitCount_0f7a4_17 ?_
  refine ax_ldcw (pc := 18) C dJ6_bitCount_0f7a4_18 qJ6_266 ?_
  refine ax_iand (pc := 21) C dJ6_bitCount_0f7a4_21 ?_
  refine ax_iadd (pc := 22) C dJ6_bitCount_0f7a4_22 ?_
  refine ax_istore_0 (pc := 23) C dJ6_bitCount_0f7a4_23 ?_
  refine ax_iload_0 (pc := 24) C dJ6_bitCount_0f7a4_24 ?_
  refine ax_iload_0 (pc := 25) C dJ6_bitCount_0f7a4_25 ?_
  refine ax_iconst (pc := 26) (v := 4) C dJ6_bitCount_0f7a4_26 (by decide) ?_
  refine ax_iushr (pc := 27) C dJ6_bitCount_0f7a4_27 ?_
  refine ax_iadd (pc := 28) C dJ6_bitCount_0f7a4_28 ?_
  refine ax_ldcw (pc := 29) C dJ6_bitCount_0f7a4_29 qJ6_267 ?_
  refine ax_iand (pc := 32) C dJ6_bitCount_0f7a4_32 ?_
  refine ax_istore_0 (pc := 33) C dJ6_bitCount_0f7a4_33 ?_
  refine ax_iload_0 (pc := 34) C dJ6_bitCount_0f7a4_34 ?_
  refine ax_iload_0 (pc := 35) C dJ6_bitCount_0f7a4_35 ?_
  refine ax_bipush (pc := 36) (v := 8) C dJ6_bitCount_0f7a4_36 (by decide) ?_
  refine ax_iushr (pc := 38) C dJ6_bitCount_0f7a4_38 ?_
  refine ax_iadd (pc := 39) C dJ6_bitCount_0f7a4_39 ?_
  refine ax_istore_0 (pc := 40) C dJ6_bitCount_0f7a4_40 ?_
  refine ax_iload_0 (pc := 41) C dJ6_bitCount_0f7a4_41 ?_
  refine ax_iload_0 (pc := 42) C dJ6_bitCount_0f7a4_42 ?_
  refine ax_bipush (pc := 43) (v := 16) C dJ6_bitCount_0f7a4_43 (by decide) ?_
  refine ax_iushr (pc := 45) C dJ6_bitCount_0f7a4_45 ?_
  refine ax_iadd (pc := 46) C dJ6_bitCount_0f7a4_46 ?_
  refine ax_istore_0 (pc := 47) C dJ6_bitCount_0f7a4_47 ?_
  refine ax_iload_0 (pc := 48) C dJ6_bitCount_0f7a4_48 ?_
  refine ax_bipush (pc := 49) (v := 63) C dJ6_bitCount_0f7a4_49 (by decide) ?_
  refine ax_iand (pc := 51) C dJ6_bitCount_0f7a4_51 ?_
  exact ax_ir (pc := 52) C rfl dJ6_bitCount_0f7a4_52 rfl rfl

set_option maxRecDepth 20000 in
set_option maxHeartbeats 4000000 in
theorem w_J7_fill_53178 {Y : ax_Y} {ad : Nat → Nat} (F : ax_F Y) {l : Launch} {σ : ax_Z} {k m : Nat} (hs : ax_sh k = .inl (0, m)) (hm : m < 2000) {v : Int32} : ax_m Y ad l iJ7_fill_53178 0 σ [.ref (ad k), .int v] none (ax_fill σ k m v) := by
  refine ax_m.of F kJ7_fill_53178.1 [some (.ref (ad k)), some (.int v), none, none] rfl (Nat.le_of_ble_eq_true rfl) (fun x C => ?_)
  have loop : ∀ (q : Nat) (c : Nat) (τ : ax_Z), τ = ax_fill σ k c v → c ≤ m → m < c + q → ax_S x Y ad 0 0 (ax_Q x Y ad none 96 (ax_g Y ad (ax_fill σ k m v)) 0 0) τ 5 [some (.ref (ad k)), some (.int v), some (.int (nI c)), some (.int (nI m))] [] := by
    intro q
    induction q with
    | zero => intro c τ e h1 h2; exfalso; omega
    | succ q ih =>
      intro c τ e h1 h2
      refine ax_iload_2 (pc := 5) C dJ7_fill_53178_5 ?_
      refine ax_iload_3 (pc := 6) C dJ7_fill_53178_6 ?_
      refine ax_icmp_ge (pc := 7) (tgt := 20) C dJ7_fill_53178_7 (by decide) (fun h7 => ?_) (fun h7 => ?_)
      · have hcm : ¬ c < m := fun q => nI_ge q (by omega) h7
        exact ax_vr (pc := 20) C rfl dJ7_fill_53178_20 (by subst e; rw [show c = m by omega])
      · have hcm : c < m := Nat.lt_of_not_le (fun q => h7 (nI_le q (by omega)))
        refine ax_aload_0 (pc := 10) C dJ7_fill_53178_10 ?_
        refine ax_iload_2 (pc := 11) C dJ7_fill_53178_11 ?_
        refine ax_iload_1 (pc := 12) C dJ7_fill_53178_12 ?_
        refine ax_isn (pc := 13) C dJ7_fill_53178_13 hs (by omega) (by omega) ?_
        refine ax_iinc_2 (pc := 14) C dJ7_fill_53178_14 (1) (by decide) rfl ?_
        refine ax_goto (pc := 17) (tgt := 5) C dJ7_fill_53178_17 (by decide) ?_
        refine ax_Leq ?_ (ih (c + 1) _ ?_ (by omega) (by omega))
        · rw [nI_1]
        · subst e
          exact ax_fill_s
  refine ax_iconst (pc := 0) (v := 0) C dJ7_fill_53178_0 (by decide) ?_
  refine ax_istore_2 (pc := 1) C dJ7_fill_53178_1 rfl ?_
  refine ax_aload_0 (pc := 2) C dJ7_fill_53178_2 ?_
  refine ax_alen (pc := 3) C dJ7_fill_53178_3 hs ?_
  refine ax_istore_3 (pc := 4) C dJ7_fill_53178_4 rfl ?_
  exact loop (m + 1) 0 σ ax_fill_0.symm (by omega) (by omega)
end
section
theorem hs_kd (k : Int32) : k = 2 ∨ k = 3 ∨ k = 4 ∨ k = 5 ∨ (k.toInt < 2 ∨ 5 < k.toInt) := by
  by_cases h2 : k = 2
  · exact Or.inl h2
  by_cases h3 : k = 3
  · exact Or.inr (Or.inl h3)
  by_cases h4 : k = 4
  · exact Or.inr (Or.inr (Or.inl h4))
  by_cases h5 : k = 5
  · exact Or.inr (Or.inr (Or.inr (Or.inl h5)))
  have e2 : ¬ k.toInt = 2 := lv_neT h2 rfl
  have e3 : ¬ k.toInt = 3 := lv_neT h3 rfl
  have e4 : ¬ k.toInt = 4 := lv_neT h4 rfl
  have e5 : ¬ k.toInt = 5 := lv_neT h5 rfl
  exact Or.inr (Or.inr (Or.inr (Or.inr (by omega))))
theorem hs_kd_ne {k : Int32} (h : k.toInt < 2 ∨ 5 < k.toInt) : ¬ k = 5 ∧ ¬ k = 3 ∧ ¬ k = 2 := by
  refine ⟨fun e => ?_, fun e => ?_, fun e => ?_⟩ <;> subst e <;> exact absurd h (by decide)
def fN (o : Option Nat) : Int32 := match o with
  | none => 0
  | some f => nI f
def fA (o : Option Nat) : Int32 := match o with
  | none => 0
  | some _ => 1
theorem hs_tix {k : Nat} (h0 : 0 < k) (h : k < 100) : (if (6 : Int32) < nI k then 6 else nI k) - 1 = nI (min k 6 - 1) := by
  have e6 : (6 : Int32) = nI 6 := rfl
  have e1 : (1 : Int32) = nI 1 := rfl
  by_cases hk : 6 < k
  · rw [e6, if_pos (nI_lt hk (by omega)), Nat.min_eq_right (by omega)]
    rfl
  · rw [e6, if_neg (nI_nlt (by omega) (by omega)), Nat.min_eq_left (by omega), e1, pk_sub (by omega)]
abbrev hp_st (σ : ax_Z) (p : Nat) : Nat → Bool := hs_st (σ (p + 3)) (σ (p + 6)) (σ p 11)
abbrev hp_rd (σ : ax_Z) (p n : Nat) : Nat → Bool := hs_rd (σ (p + 2)) (σ (p + 3)) (σ (p + 5)) (σ (p + 6)) (σ p 11) n
abbrev hp_tr (σ : ax_Z) (p n : Nat) : Nat → Bool := hs_tr (σ (p + 2)) (σ (p + 3)) (σ (p + 5)) (σ (p + 6)) (σ p 11) n
abbrev hp_ah (σ : ax_Z) (p : Nat) : Nat → Nat → Bool := hs_ah (σ (p + 2)) (σ (p + 3)) (σ (p + 8))
abbrev hp_f (σ : ax_Z) (p n : Nat) : Option Nat := hs_f (hp_rd σ p n) (hp_ah σ p) n
/-- an hour goes by in the pass at p -/
def hp_go (σ : ax_Z) (p n h : Nat) : ax_Z := match hp_f σ p n with
  | none => ax_up σ p 11 (nI (h + 1))
  | some f => ax_up (hs_gone (ax_up (ax_up σ (p + 9) h (nI f)) (p + 7) f (hs_toll (σ (p + 1)) (ms_c (hp_tr σ p n) n))) (p + 6) (hp_tr σ p n) (nI h) n) p 11 (nI (h + 1))
def hp_tm (σ : ax_Z) (p n : Nat) : Nat := match hp_f σ p n with
  | none => 0
  | some _ => ms_k (hp_tr σ p n) n

set_option maxRecDepth 20000 in
set_option maxHeartbeats 4000000 in
theorem w_X3_standing {Y : ax_Y} {ad : Nat → Nat} (F : ax_F Y) {l : Launch} {σ : ax_Z} {p n : Nat} (hp : ax_isP p) (hn : σ p 10 = nI n) (h7 : n ≤ 7) : ax_m Y ad l iX3_standing 0 σ [.ref (ad p)] (some (.int (nI (ms_k (hp_st σ p) n)))) σ := by
  refine ax_m.of F kX3_standing.1 [some (.ref (ad p)), none, none] rfl (Nat.le_of_ble_eq_true rfl) (fun x C => ?_)
  have loop : ∀ (q : Nat) (c : Nat), c ≤ n → n < c + q → ax_S x Y ad 0 0 (ax_Q x Y ad (some (.int (nI (ms_k (hp_st σ p) n)))) 96 (ax_g Y ad σ) 0 0) σ 4 [some (.ref (ad p)), some (.int (nI (ms_k (hp_st σ p) c))), some (.int (nI c))] [] := by
    intro q
    induction q with
    | zero => intro c h1 h2; exfalso; omega
    | succ q ih =>
      intro c h1 h2
      refine ax_iload_2 (pc := 4) C dX3_standing_4 ?_
      refine ax_aload_0 (pc := 5) C dX3_standing_5 ?_
      refine ax_getI (pc := 6) C fX3_47 dX3_standing_6 hp.o rfl ?_
      refine ax_icmp_ge (pc := 9) (tgt := 48) C dX3_standing_9 (by decide) (fun h9 => ?_) (fun h9 => ?_)
      · have hcn : ¬ c < n := fun q => nI_ge q (by omega) (by rw [← hn]; exact h9)
        refine ax_iload_1 (pc := 48) C dX3_standing_48 ?_
        exact ax_ir (pc := 49) C rfl dX3_standing_49 (by rw [show c = n by omega]) rfl
      · have hcn : c < n := Nat.lt_of_not_le (fun q => h9 (by rw [hn]; exact nI_le q (by omega)))
        refine ax_aload_0 (pc := 12) C dX3_standing_12 ?_
        refine ax_getR (pc := 13) C fX3_18 dX3_standing_13 hp.o rfl ?_
        refine ax_iload_2 (pc := 16) C dX3_standing_16 ?_
        refine ax_ian (pc := 17) C dX3_standing_17 hp.a3 (by omega) (by omega) ?_
        refine ax_aload_0 (pc := 18) C dX3_standing_18 ?_
        refine ax_getI (pc := 19) C fX3_51 dX3_standing_19 hp.o rfl ?_
        refine ax_icmp_gt (pc := 22) (tgt := 42) C dX3_standing_22 (by decide) (fun h22 => ?_) (fun h22 => ?_)
        · refine ax_iinc_2 (pc := 42) C dX3_standing_42 (1) (by decide) rfl ?_
          refine ax_goto (pc := 45) (tgt := 4) C dX3_standing_45 (by decide) ?_
          have hst : ¬ hp_st σ p c = true := by simp_all [hs_st, ← Int32.not_lt]
          refine ax_Leq ?_ (ih (c + 1) (by omega) (by omega))
          rw [ms_skip hst, nI_1]
        · refine ax_aload_0 (pc := 25) C dX3_standing_25 ?_
          refine ax_getR (pc := 26) C fX3_27 dX3_standing_26 hp.o rfl ?_
          refine ax_iload_2 (pc := 29) C dX3_standing_29 ?_
          refine ax_ian (pc := 30) C dX3_standing_30 hp.a6 (by omega) (by omega) ?_
          refine ax_ldc (pc := 31) C dX3_standing_31 qX3_66 ?_
          refine ax_icmp_ne (pc := 33) (tgt := 42) C dX3_standing_33 (by decide) (fun h33 => ?_) (fun h33 => ?_)
          · refine ax_iinc_2 (pc := 42) C dX3_standing_42 (1) (by decide) rfl ?_
            refine ax_goto (pc := 45) (tgt := 4) C dX3_standing_45 (by decide) ?_
            have hst : ¬ hp_st σ p c = true := by simp_all [hs_st, ← Int32.not_lt]
            refine ax_Leq ?_ (ih (c + 1) (by omega) (by omega))
            rw [ms_skip hst, nI_1]
          · refine ax_iload_1 (pc := 36) C dX3_standing_36 ?_
            refine ax_iconst (pc := 37) (v := 1) C dX3_standing_37 (by decide) ?_
            refine ax_iload_2 (pc := 38) C dX3_standing_38 ?_
            refine ax_ishl (pc := 39) C dX3_standing_39 ?_
            refine ax_ior (pc := 40) C dX3_standing_40 ?_
            refine ax_istore_1 (pc := 41) C dX3_standing_41 rfl ?_
            refine ax_iinc_2 (pc := 42) C dX3_standing_42 (1) (by decide) rfl ?_
            refine ax_goto (pc := 45) (tgt := 4) C dX3_standing_45 (by decide) ?_
            have hst : hp_st σ p c = true := by simp_all [hs_st, ← Int32.not_lt]
            refine ax_Leq ?_ (ih (c + 1) (by omega) (by omega))
            rw [ms_add (by omega) hst, nI_1]
  refine ax_iconst (pc := 0) (v := 0) C dX3_standing_0 (by decide) ?_
  refine ax_istore_1 (pc := 1) C dX3_standing_1 rfl ?_
  refine ax_iconst (pc := 2) (v := 0) C dX3_standing_2 (by decide) ?_
  refine ax_istore_2 (pc := 3) C dX3_standing_3 rfl ?_
  exact loop (n + 1) 0 (by omega) (by omega)

set_option maxRecDepth 20000 in
set_option maxHeartbeats 4000000 in
theorem w_X3_isReady {Y : ax_Y} {ad : Nat → Nat} (F : ax_F Y) {l : Launch} {σ : ax_Z} {p c : Nat} (hp : ax_isP p) (hc : c < 7) {en : Bool} : ax_m Y ad l iX3_isReady 0 σ [.ref (ad p), .int (nI c), .int (ax_b (en = true))] (some (.int (ax_b (hs_r1 (σ (p + 2)) (σ (p + 3)) (σ (p + 5)) (σ p 11) en c = true)))) σ := by
  refine ax_m.of F kX3_isReady.1 [some (.ref (ad p)), some (.int (nI c)), some (.int (ax_b (en = true))), none] rfl (Nat.le_of_ble_eq_true rfl) (fun x C => ?_)
  refine ax_aload_0 (pc := 0) C dX3_isReady_0 ?_
  refine ax_getI (pc := 1) C fX3_51 dX3_isReady_1 hp.o rfl ?_
  refine ax_aload_0 (pc := 4) C dX3_isReady_4 ?_
  refine ax_getR (pc := 5) C fX3_18 dX3_isReady_5 hp.o rfl ?_
  refine ax_iload_1 (pc := 8) C dX3_isReady_8 ?_
  refine ax_ian (pc := 9) C dX3_isReady_9 hp.a3 (by omega) (by omega) ?_
  refine ax_aload_0 (pc := 10) C dX3_isReady_10 ?_
  refine ax_getR (pc := 11) C fX3_24 dX3_isReady_11 hp.o rfl ?_
  refine ax_iload_1 (pc := 14) C dX3_isReady_14 ?_
  refine ax_ian (pc := 15) C dX3_isReady_15 hp.a5 (by omega) (by omega) ?_
  refine ax_iadd (pc := 16) C dX3_isReady_16 ?_
  refine ax_icmp_lt (pc := 17) (tgt := 24) C dX3_isReady_17 (by decide) (fun h17 => ?_) (fun h17 => ?_)
  · refine ax_iconst (pc := 24) (v := 0) C dX3_isReady_24 (by decide) ?_
    refine ax_istore_3 (pc := 25) C dX3_isReady_25 rfl ?_
    refine ax_aload_0 (pc := 26) C dX3_isReady_26 ?_
    refine ax_getR (pc := 27) C fX3_15 dX3_isReady_27 hp.o rfl ?_
    refine ax_iload_1 (pc := 30) C dX3_isReady_30 ?_
    refine ax_ian (pc := 31) C dX3_isReady_31 hp.a2 (by omega) (by omega) ?_
    rcases hs_kd (σ (p + 2) c) with hk | hk | hk | hk | hk
    · refine ax_val C hk ?_
      refine ax_tabIn (pc := 32) (off := 36) (tgt := 68) C dX3_isReady_32 (by decide) (by decide) (by decide) (by decide) ?_
      refine ax_iload_3 (pc := 68) C dX3_isReady_68 ?_
      refine ax_if_ne (pc := 69) (tgt := 76) C dX3_isReady_69 (by decide) (fun h69 => ?_) (fun h69 => ?_)
      · refine ax_iconst (pc := 76) (v := 1) C dX3_isReady_76 (by decide) ?_
        refine ax_goto (pc := 77) (tgt := 81) C dX3_isReady_77 (by decide) ?_
        exact ax_zr (pc := 81) C rfl (by first | rfl | (unfold ax_b; split <;> rfl)) dX3_isReady_81 (by simp_all [hs_r1, ax_b, ← Int32.not_lt]) rfl
      · refine ax_iload_2 (pc := 72) C dX3_isReady_72 ?_
        refine ax_if_eq (pc := 73) (tgt := 80) C dX3_isReady_73 (by decide) (fun h73 => ?_) (fun h73 => ?_)
        · refine ax_iconst (pc := 80) (v := 0) C dX3_isReady_80 (by decide) ?_
          exact ax_zr (pc := 81) C rfl (by first | rfl | (unfold ax_b; split <;> rfl)) dX3_isReady_81 (by simp_all [hs_r1, ax_b, ← Int32.not_lt]) rfl
        · refine ax_iconst (pc := 76) (v := 1) C dX3_isReady_76 (by decide) ?_
          refine ax_goto (pc := 77) (tgt := 81) C dX3_isReady_77 (by decide) ?_
          exact ax_zr (pc := 81) C rfl (by first | rfl | (unfold ax_b; split <;> rfl)) dX3_isReady_81 (by simp_all [hs_r1, ax_b, ← Int32.not_lt]) rfl
    · refine ax_val C hk ?_
      refine ax_tabIn (pc := 32) (off := 34) (tgt := 66) C dX3_isReady_32 (by decide) (by decide) (by decide) (by decide) ?_
      refine ax_iconst (pc := 66) (v := 0) C dX3_isReady_66 (by decide) ?_
      exact ax_zr (pc := 67) C rfl (by first | rfl | (unfold ax_b; split <;> rfl)) dX3_isReady_67 (by simp_all [hs_r1, ax_b, ← Int32.not_lt]) rfl
    · refine ax_val C hk ?_
      refine ax_tabIn (pc := 32) (off := 50) (tgt := 82) C dX3_isReady_32 (by decide) (by decide) (by decide) (by decide) ?_
      refine ax_iload_3 (pc := 82) C dX3_isReady_82 ?_
      exact ax_zr (pc := 83) C rfl (by first | rfl | (unfold ax_b; split <;> rfl)) dX3_isReady_83 (by simp_all [hs_r1, ax_b, ← Int32.not_lt]) rfl
    · refine ax_val C hk ?_
      refine ax_tabIn (pc := 32) (off := 32) (tgt := 64) C dX3_isReady_32 (by decide) (by decide) (by decide) (by decide) ?_
      refine ax_iconst (pc := 64) (v := 1) C dX3_isReady_64 (by decide) ?_
      exact ax_zr (pc := 65) C rfl (by first | rfl | (unfold ax_b; split <;> rfl)) dX3_isReady_65 (by simp_all [hs_r1, ax_b, ← Int32.not_lt]) rfl
    · obtain ⟨k5, k3, k2⟩ := hs_kd_ne hk
      refine ax_tabOut (pc := 32) (tgt := 82) C dX3_isReady_32 hk (by decide) ?_
      refine ax_iload_3 (pc := 82) C dX3_isReady_82 ?_
      exact ax_zr (pc := 83) C rfl (by first | rfl | (unfold ax_b; split <;> rfl)) dX3_isReady_83 (by simp_all [hs_r1, ax_b, ← Int32.not_lt]) rfl
  · refine ax_iconst (pc := 20) (v := 1) C dX3_isReady_20 (by decide) ?_
    refine ax_goto (pc := 21) (tgt := 25) C dX3_isReady_21 (by decide) ?_
    refine ax_istore_3 (pc := 25) C dX3_isReady_25 rfl ?_
    refine ax_aload_0 (pc := 26) C dX3_isReady_26 ?_
    refine ax_getR (pc := 27) C fX3_15 dX3_isReady_27 hp.o rfl ?_
    refine ax_iload_1 (pc := 30) C dX3_isReady_30 ?_
    refine ax_ian (pc := 31) C dX3_isReady_31 hp.a2 (by omega) (by omega) ?_
    rcases hs_kd (σ (p + 2) c) with hk | hk | hk | hk | hk
    · refine ax_val C hk ?_
      refine ax_tabIn (pc := 32) (off := 36) (tgt := 68) C dX3_isReady_32 (by decide) (by decide) (by decide) (by decide) ?_
      refine ax_iload_3 (pc := 68) C dX3_isReady_68 ?_
      refine ax_if_ne (pc := 69) (tgt := 76) C dX3_isReady_69 (by decide) (fun h69 => ?_) (fun h69 => ?_)
      · refine ax_iconst (pc := 76) (v := 1) C dX3_isReady_76 (by decide) ?_
        refine ax_goto (pc := 77) (tgt := 81) C dX3_isReady_77 (by decide) ?_
        exact ax_zr (pc := 81) C rfl (by first | rfl | (unfold ax_b; split <;> rfl)) dX3_isReady_81 (by simp_all [hs_r1, ax_b, ← Int32.not_lt]) rfl
      · refine ax_iload_2 (pc := 72) C dX3_isReady_72 ?_
        refine ax_if_eq (pc := 73) (tgt := 80) C dX3_isReady_73 (by decide) (fun h73 => ?_) (fun h73 => ?_)
        · refine ax_iconst (pc := 80) (v := 0) C dX3_isReady_80 (by decide) ?_
          exact ax_zr (pc := 81) C rfl (by first | rfl | (unfold ax_b; split <;> rfl)) dX3_isReady_81 (by simp_all [hs_r1, ax_b, ← Int32.not_lt]) rfl
        · refine ax_iconst (pc := 76) (v := 1) C dX3_isReady_76 (by decide) ?_
          refine ax_goto (pc := 77) (tgt := 81) C dX3_isReady_77 (by decide) ?_
          exact ax_zr (pc := 81) C rfl (by first | rfl | (unfold ax_b; split <;> rfl)) dX3_isReady_81 (by simp_all [hs_r1, ax_b, ← Int32.not_lt]) rfl
    · refine ax_val C hk ?_
      refine ax_tabIn (pc := 32) (off := 34) (tgt := 66) C dX3_isReady_32 (by decide) (by decide) (by decide) (by decide) ?_
      refine ax_iconst (pc := 66) (v := 0) C dX3_isReady_66 (by decide) ?_
      exact ax_zr (pc := 67) C rfl (by first | rfl | (unfold ax_b; split <;> rfl)) dX3_isReady_67 (by simp_all [hs_r1, ax_b, ← Int32.not_lt]) rfl
    · refine ax_val C hk ?_
      refine ax_tabIn (pc := 32) (off := 50) (tgt := 82) C dX3_isReady_32 (by decide) (by decide) (by decide) (by decide) ?_
      refine ax_iload_3 (pc := 82) C dX3_isReady_82 ?_
      exact ax_zr (pc := 83) C rfl (by first | rfl | (unfold ax_b; split <;> rfl)) dX3_isReady_83 (by simp_all [hs_r1, ax_b, ← Int32.not_lt]) rfl
    · refine ax_val C hk ?_
      refine ax_tabIn (pc := 32) (off := 32) (tgt := 64) C dX3_isReady_32 (by decide) (by decide) (by decide) (by decide) ?_
      refine ax_iconst (pc := 64) (v := 1) C dX3_isReady_64 (by decide) ?_
      exact ax_zr (pc := 65) C rfl (by first | rfl | (unfold ax_b; split <;> rfl)) dX3_isReady_65 (by simp_all [hs_r1, ax_b, ← Int32.not_lt]) rfl
    · obtain ⟨k5, k3, k2⟩ := hs_kd_ne hk
      refine ax_tabOut (pc := 32) (tgt := 82) C dX3_isReady_32 hk (by decide) ?_
      refine ax_iload_3 (pc := 82) C dX3_isReady_82 ?_
      exact ax_zr (pc := 83) C rfl (by first | rfl | (unfold ax_b; split <;> rfl)) dX3_isReady_83 (by simp_all [hs_r1, ax_b, ← Int32.not_lt]) rfl

set_option maxRecDepth 20000 in
set_option maxHeartbeats 4000000 in
theorem w_X3_readyOf {Y : ax_Y} {ad : Nat → Nat} (F : ax_F Y) {l : Launch} {σ : ax_Z} {p n : Nat} (hp : ax_isP p) (hn : σ p 10 = nI n) (h7 : n ≤ 7) (st : Nat → Bool) : ax_m Y ad l iX3_readyOf 1 σ [.ref (ad p), .int (nI (ms_k st n))] (some (.int (nI (ms_k (fun c => st c && (decide (σ p 11 = 11) || hs_r1 (σ (p + 2)) (σ (p + 3)) (σ (p + 5)) (σ p 11) (decide (3 ≤ ms_c st n)) c)) n)))) σ := by
  refine ax_m.of F kX3_readyOf.1 [some (.ref (ad p)), some (.int (nI (ms_k st n))), none, none, none] rfl (Nat.le_of_ble_eq_true rfl) (fun x C => ?_)
  have cont : ¬ σ p 11 = 11 → ax_S x Y ad 0 0 (ax_Q x Y ad (some (.int (nI (ms_k (fun c => st c && (decide (σ p 11 = 11) || hs_r1 (σ (p + 2)) (σ (p + 3)) (σ (p + 5)) (σ p 11) (decide (3 ≤ ms_c st n)) c)) n)))) 96 (ax_g Y ad σ) 0 0) σ 25 [some (.ref (ad p)), some (.int (nI (ms_k st n))), some (.int (ax_b (decide (3 ≤ ms_c st n) = true))), none, none] [] := by
    intro h11
    have loop : ∀ (q : Nat) (c : Nat), c ≤ n → n < c + q → ax_S x Y ad 0 0 (ax_Q x Y ad (some (.int (nI (ms_k (fun c => st c && (decide (σ p 11 = 11) || hs_r1 (σ (p + 2)) (σ (p + 3)) (σ (p + 5)) (σ p 11) (decide (3 ≤ ms_c st n)) c)) n)))) 96 (ax_g Y ad σ) 0 0) σ 30 [some (.ref (ad p)), some (.int (nI (ms_k st n))), some (.int (ax_b (decide (3 ≤ ms_c st n) = true))), some (.int (nI (ms_k (fun c => st c && (decide (σ p 11 = 11) || hs_r1 (σ (p + 2)) (σ (p + 3)) (σ (p + 5)) (σ p 11) (decide (3 ≤ ms_c st n)) c)) c))), some (.int (nI c))] [] := by
      intro q
      induction q with
      | zero => intro c h1 h2; exfalso; omega
      | succ q ih =>
        intro c h1 h2
        refine ax_iload_4 (pc := 30) C dX3_readyOf_30 ?_
        refine ax_aload_0 (pc := 32) C dX3_readyOf_32 ?_
        refine ax_getI (pc := 33) C fX3_47 dX3_readyOf_33 hp.o rfl ?_
        refine ax_icmp_ge (pc := 36) (tgt := 71) C dX3_readyOf_36 (by decide) (fun h36 => ?_) (fun h36 => ?_)
        · have hcn : ¬ c < n := fun q => nI_ge q (by omega) (by rw [← hn]; exact h36)
          refine ax_iload_3 (pc := 71) C dX3_readyOf_71 ?_
          exact ax_ir (pc := 72) C rfl dX3_readyOf_72 (by rw [show c = n by omega]) rfl
        · have hcn : c < n := Nat.lt_of_not_le (fun q => h36 (by rw [hn]; exact nI_le q (by omega)))
          refine ax_iload_1 (pc := 39) C dX3_readyOf_39 ?_
          refine ax_iload_4 (pc := 40) C dX3_readyOf_40 ?_
          refine ax_ishr (pc := 42) C dX3_readyOf_42 ?_
          refine ax_iconst (pc := 43) (v := 1) C dX3_readyOf_43 (by decide) ?_
          refine ax_iand (pc := 44) C dX3_readyOf_44 ?_
          refine ax_if_eq (pc := 45) (tgt := 65) C dX3_readyOf_45 (by decide) (fun h45 => ?_) (fun h45 => ?_)
          · rw [ms_test hcn (by omega)] at h45
            refine ax_iinc_4 (pc := 65) C dX3_readyOf_65 (1) (by decide) rfl ?_
            refine ax_goto (pc := 68) (tgt := 30) C dX3_readyOf_68 (by decide) ?_
            have hst : ¬ (fun c => st c && (decide (σ p 11 = 11) || hs_r1 (σ (p + 2)) (σ (p + 3)) (σ (p + 5)) (σ p 11) (decide (3 ≤ ms_c st n)) c)) c = true := by simp_all
            refine ax_Leq ?_ (ih (c + 1) (by omega) (by omega))
            rw [ms_skip hst, nI_1]
          · rw [ms_test hcn (by omega)] at h45
            refine ax_aload_0 (pc := 48) C dX3_readyOf_48 ?_
            refine ax_iload_4 (pc := 49) C dX3_readyOf_49 ?_
            refine ax_iload_2 (pc := 51) C dX3_readyOf_51 ?_
            refine ax_callVi (pc := 52) C (w_X3_isReady F hp (by omega)) kX3_isReady mX3_109 dX3_readyOf_52 (by decide) rfl hp.o rfl rfl rfl (Nat.le_of_ble_eq_true rfl) rfl ⟨Nat.le_refl _, Nat.le_refl _⟩ ?_
            refine ax_if_eq (pc := 55) (tgt := 65) C dX3_readyOf_55 (by decide) (fun h55 => ?_) (fun h55 => ?_)
            · have h55 := ax_beq h55
              refine ax_iinc_4 (pc := 65) C dX3_readyOf_65 (1) (by decide) rfl ?_
              refine ax_goto (pc := 68) (tgt := 30) C dX3_readyOf_68 (by decide) ?_
              have hst : ¬ (fun c => st c && (decide (σ p 11 = 11) || hs_r1 (σ (p + 2)) (σ (p + 3)) (σ (p + 5)) (σ p 11) (decide (3 ≤ ms_c st n)) c)) c = true := by simp_all
              refine ax_Leq ?_ (ih (c + 1) (by omega) (by omega))
              rw [ms_skip hst, nI_1]
            · have h55 := ax_bne h55
              refine ax_iload_3 (pc := 58) C dX3_readyOf_58 ?_
              refine ax_iconst (pc := 59) (v := 1) C dX3_readyOf_59 (by decide) ?_
              refine ax_iload_4 (pc := 60) C dX3_readyOf_60 ?_
              refine ax_ishl (pc := 62) C dX3_readyOf_62 ?_
              refine ax_ior (pc := 63) C dX3_readyOf_63 ?_
              refine ax_istore_3 (pc := 64) C dX3_readyOf_64 rfl ?_
              refine ax_iinc_4 (pc := 65) C dX3_readyOf_65 (1) (by decide) rfl ?_
              refine ax_goto (pc := 68) (tgt := 30) C dX3_readyOf_68 (by decide) ?_
              have hst : (fun c => st c && (decide (σ p 11 = 11) || hs_r1 (σ (p + 2)) (σ (p + 3)) (σ (p + 5)) (σ p 11) (decide (3 ≤ ms_c st n)) c)) c = true := by simp_all
              refine ax_Leq ?_ (ih (c + 1) (by omega) (by omega))
              rw [ms_add (by omega) hst, nI_1]
    refine ax_iconst (pc := 25) (v := 0) C dX3_readyOf_25 (by decide) ?_
    refine ax_istore_3 (pc := 26) C dX3_readyOf_26 rfl ?_
    refine ax_iconst (pc := 27) (v := 0) C dX3_readyOf_27 (by decide) ?_
    refine ax_istore_4 (pc := 28) C dX3_readyOf_28 rfl ?_
    exact loop (n + 1) 0 (by omega) (by omega)
  refine ax_aload_0 (pc := 0) C dX3_readyOf_0 ?_
  refine ax_getI (pc := 1) C fX3_51 dX3_readyOf_1 hp.o rfl ?_
  refine ax_bipush (pc := 4) (v := 11) C dX3_readyOf_4 (by decide) ?_
  refine ax_icmp_ne (pc := 6) (tgt := 11) C dX3_readyOf_6 (by decide) (fun h6 => ?_) (fun h6 => ?_)
  · have cont := cont h6
    have hcc := ms_c_le st n
    refine ax_iload_1 (pc := 11) C dX3_readyOf_11 ?_
    refine ax_callSi (pc := 12) C (w_J6_bitCount_0f7a4 F) kJ6_bitCount_0f7a4 mX3_97 dX3_readyOf_12 (by decide) rfl rfl (Nat.le_of_ble_eq_true rfl) rfl ⟨Nat.le_refl _, Nat.le_refl _⟩ ?_
    refine ax_iconst (pc := 15) (v := 3) C dX3_readyOf_15 (by decide) ?_
    refine ax_icmp_lt (pc := 16) (tgt := 23) C dX3_readyOf_16 (by decide) (fun h16 => ?_) (fun h16 => ?_)
    · rw [jd_bc_ms st h7] at h16
      have h3 : ¬ 3 ≤ ms_c st n := fun q => nI_nlt (a := ms_c st n) (b := 3) q (by omega) h16
      rw [show ax_b (decide (3 ≤ ms_c st n) = true) = 0 from ax_b0 (by simp [h3])] at cont
      refine ax_iconst (pc := 23) (v := 0) C dX3_readyOf_23 (by decide) ?_
      refine ax_istore_2 (pc := 24) C dX3_readyOf_24 rfl ?_
      exact cont
    · rw [jd_bc_ms st h7] at h16
      have h3 : 3 ≤ ms_c st n := Nat.le_of_not_lt (fun q => h16 (nI_lt (b := 3) q (by omega)))
      rw [show ax_b (decide (3 ≤ ms_c st n) = true) = 1 from ax_b1 (by simp [h3])] at cont
      refine ax_iconst (pc := 19) (v := 1) C dX3_readyOf_19 (by decide) ?_
      refine ax_goto (pc := 20) (tgt := 24) C dX3_readyOf_20 (by decide) ?_
      refine ax_istore_2 (pc := 24) C dX3_readyOf_24 rfl ?_
      exact cont
  · have hx11 : σ p 11 = 11 := h6
    refine ax_iload_1 (pc := 9) C dX3_readyOf_9 ?_
    exact ax_ir (pc := 10) C rfl dX3_readyOf_10 (by rw [ms_congr (g := st)]; intro c hc; simp [hx11]) rfl

set_option maxRecDepth 20000 in
set_option maxHeartbeats 4000000 in
theorem w_X3_followersOf {Y : ax_Y} {ad : Nat → Nat} (F : ax_F Y) {l : Launch} {σ : ax_Z} {p n : Nat} (hp : ax_isP p) (hn : σ p 10 = nI n) (h7 : n ≤ 7) (st : Nat → Bool) : ax_m Y ad l iX3_followersOf 0 σ [.ref (ad p), .int (nI (ms_k st n))] (some (.int (nI (ms_k (fun c => hs_fo (σ (p + 2)) c && st c) n)))) σ := by
  refine ax_m.of F kX3_followersOf.1 [some (.ref (ad p)), some (.int (nI (ms_k st n))), none, none] rfl (Nat.le_of_ble_eq_true rfl) (fun x C => ?_)
  have loop : ∀ (q : Nat) (c : Nat), c ≤ n → n < c + q → ax_S x Y ad 0 0 (ax_Q x Y ad (some (.int (nI (ms_k (fun c => hs_fo (σ (p + 2)) c && st c) n)))) 96 (ax_g Y ad σ) 0 0) σ 4 [some (.ref (ad p)), some (.int (nI (ms_k st n))), some (.int (nI (ms_k (hs_fo (σ (p + 2))) c))), some (.int (nI c))] [] := by
    intro q
    induction q with
    | zero => intro c h1 h2; exfalso; omega
    | succ q ih =>
      intro c h1 h2
      refine ax_iload_3 (pc := 4) C dX3_followersOf_4 ?_
      refine ax_aload_0 (pc := 5) C dX3_followersOf_5 ?_
      refine ax_getI (pc := 6) C fX3_47 dX3_followersOf_6 hp.o rfl ?_
      refine ax_icmp_ge (pc := 9) (tgt := 54) C dX3_followersOf_9 (by decide) (fun h9 => ?_) (fun h9 => ?_)
      · have hcn : ¬ c < n := fun q => nI_ge q (by omega) (by rw [← hn]; exact h9)
        refine ax_iload_2 (pc := 54) C dX3_followersOf_54 ?_
        refine ax_iload_1 (pc := 55) C dX3_followersOf_55 ?_
        refine ax_iand (pc := 56) C dX3_followersOf_56 ?_
        exact ax_ir (pc := 57) C rfl dX3_followersOf_57 (by rw [show c = n by omega, nI_and, ms_and]) rfl
      · have hcn : c < n := Nat.lt_of_not_le (fun q => h9 (by rw [hn]; exact nI_le q (by omega)))
        refine ax_aload_0 (pc := 12) C dX3_followersOf_12 ?_
        refine ax_getR (pc := 13) C fX3_15 dX3_followersOf_13 hp.o rfl ?_
        refine ax_iload_3 (pc := 16) C dX3_followersOf_16 ?_
        refine ax_ian (pc := 17) C dX3_followersOf_17 hp.a2 (by omega) (by omega) ?_
        refine ax_iconst (pc := 18) (v := 1) C dX3_followersOf_18 (by decide) ?_
        refine ax_icmp_eq (pc := 19) (tgt := 42) C dX3_followersOf_19 (by decide) (fun h19 => ?_) (fun h19 => ?_)
        · refine ax_iload_2 (pc := 42) C dX3_followersOf_42 ?_
          refine ax_iconst (pc := 43) (v := 1) C dX3_followersOf_43 (by decide) ?_
          refine ax_iload_3 (pc := 44) C dX3_followersOf_44 ?_
          refine ax_ishl (pc := 45) C dX3_followersOf_45 ?_
          refine ax_ior (pc := 46) C dX3_followersOf_46 ?_
          refine ax_istore_2 (pc := 47) C dX3_followersOf_47 rfl ?_
          refine ax_iinc_3 (pc := 48) C dX3_followersOf_48 (1) (by decide) rfl ?_
          refine ax_goto (pc := 51) (tgt := 4) C dX3_followersOf_51 (by decide) ?_
          have hst : hs_fo (σ (p + 2)) c = true := by simp_all [hs_fo]
          refine ax_Leq ?_ (ih (c + 1) (by omega) (by omega))
          rw [ms_add (by omega) hst, nI_1]
        · refine ax_aload_0 (pc := 22) C dX3_followersOf_22 ?_
          refine ax_getR (pc := 23) C fX3_15 dX3_followersOf_23 hp.o rfl ?_
          refine ax_iload_3 (pc := 26) C dX3_followersOf_26 ?_
          refine ax_ian (pc := 27) C dX3_followersOf_27 hp.a2 (by omega) (by omega) ?_
          refine ax_iconst (pc := 28) (v := 2) C dX3_followersOf_28 (by decide) ?_
          refine ax_icmp_eq (pc := 29) (tgt := 42) C dX3_followersOf_29 (by decide) (fun h29 => ?_) (fun h29 => ?_)
          · refine ax_iload_2 (pc := 42) C dX3_followersOf_42 ?_
            refine ax_iconst (pc := 43) (v := 1) C dX3_followersOf_43 (by decide) ?_
            refine ax_iload_3 (pc := 44) C dX3_followersOf_44 ?_
            refine ax_ishl (pc := 45) C dX3_followersOf_45 ?_
            refine ax_ior (pc := 46) C dX3_followersOf_46 ?_
            refine ax_istore_2 (pc := 47) C dX3_followersOf_47 rfl ?_
            refine ax_iinc_3 (pc := 48) C dX3_followersOf_48 (1) (by decide) rfl ?_
            refine ax_goto (pc := 51) (tgt := 4) C dX3_followersOf_51 (by decide) ?_
            have hst : hs_fo (σ (p + 2)) c = true := by simp_all [hs_fo]
            refine ax_Leq ?_ (ih (c + 1) (by omega) (by omega))
            rw [ms_add (by omega) hst, nI_1]
          · refine ax_aload_0 (pc := 32) C dX3_followersOf_32 ?_
            refine ax_getR (pc := 33) C fX3_15 dX3_followersOf_33 hp.o rfl ?_
            refine ax_iload_3 (pc := 36) C dX3_followersOf_36 ?_
            refine ax_ian (pc := 37) C dX3_followersOf_37 hp.a2 (by omega) (by omega) ?_
            refine ax_iconst (pc := 38) (v := 3) C dX3_followersOf_38 (by decide) ?_
            refine ax_icmp_ne (pc := 39) (tgt := 48) C dX3_followersOf_39 (by decide) (fun h39 => ?_) (fun h39 => ?_)
            · refine ax_iinc_3 (pc := 48) C dX3_followersOf_48 (1) (by decide) rfl ?_
              refine ax_goto (pc := 51) (tgt := 4) C dX3_followersOf_51 (by decide) ?_
              have hst : ¬ hs_fo (σ (p + 2)) c = true := by simp_all [hs_fo]
              refine ax_Leq ?_ (ih (c + 1) (by omega) (by omega))
              rw [ms_skip hst, nI_1]
            · refine ax_iload_2 (pc := 42) C dX3_followersOf_42 ?_
              refine ax_iconst (pc := 43) (v := 1) C dX3_followersOf_43 (by decide) ?_
              refine ax_iload_3 (pc := 44) C dX3_followersOf_44 ?_
              refine ax_ishl (pc := 45) C dX3_followersOf_45 ?_
              refine ax_ior (pc := 46) C dX3_followersOf_46 ?_
              refine ax_istore_2 (pc := 47) C dX3_followersOf_47 rfl ?_
              refine ax_iinc_3 (pc := 48) C dX3_followersOf_48 (1) (by decide) rfl ?_
              refine ax_goto (pc := 51) (tgt := 4) C dX3_followersOf_51 (by decide) ?_
              have hst : hs_fo (σ (p + 2)) c = true := by simp_all [hs_fo]
              refine ax_Leq ?_ (ih (c + 1) (by omega) (by omega))
              rw [ms_add (by omega) hst, nI_1]
  refine ax_iconst (pc := 0) (v := 0) C dX3_followersOf_0 (by decide) ?_
  refine ax_istore_2 (pc := 1) C dX3_followersOf_1 rfl ?_
  refine ax_iconst (pc := 2) (v := 0) C dX3_followersOf_2 (by decide) ?_
  refine ax_istore_3 (pc := 3) C dX3_followersOf_3 rfl ?_
  exact loop (n + 1) 0 (by omega) (by omega)

set_option maxRecDepth 20000 in
set_option maxHeartbeats 4000000 in
theorem w_X3_isAhead {Y : ax_Y} {ad : Nat → Nat} (F : ax_F Y) {l : Launch} {σ : ax_Z} {p c d : Nat} (hp : ax_isP p) (hc : c < 7) (hd : d < 7) : ax_m Y ad l iX3_isAhead 0 σ [.ref (ad p), .int (nI c), .int (nI d)] (some (.int (ax_b (hp_ah σ p c d = true)))) σ := by
  refine ax_m.of F kX3_isAhead.1 [some (.ref (ad p)), some (.int (nI c)), some (.int (nI d))] rfl (Nat.le_of_ble_eq_true rfl) (fun x C => ?_)
  refine ax_aload_0 (pc := 0) C dX3_isAhead_0 ?_
  refine ax_getR (pc := 1) C fX3_15 dX3_isAhead_1 hp.o rfl ?_
  refine ax_iload_1 (pc := 4) C dX3_isAhead_4 ?_
  refine ax_ian (pc := 5) C dX3_isAhead_5 hp.a2 (by omega) (by omega) ?_
  refine ax_iconst (pc := 6) (v := 3) C dX3_isAhead_6 (by decide) ?_
  refine ax_icmp_ne (pc := 7) (tgt := 14) C dX3_isAhead_7 (by decide) (fun h7 => ?_) (fun h7 => ?_)
  · refine ax_iconst (pc := 14) (v := 0) C dX3_isAhead_14 (by decide) ?_
    refine ax_aload_0 (pc := 15) C dX3_isAhead_15 ?_
    refine ax_getR (pc := 16) C fX3_15 dX3_isAhead_16 hp.o rfl ?_
    refine ax_iload_2 (pc := 19) C dX3_isAhead_19 ?_
    refine ax_ian (pc := 20) C dX3_isAhead_20 hp.a2 (by omega) (by omega) ?_
    refine ax_iconst (pc := 21) (v := 3) C dX3_isAhead_21 (by decide) ?_
    refine ax_icmp_ne (pc := 22) (tgt := 29) C dX3_isAhead_22 (by decide) (fun h22 => ?_) (fun h22 => ?_)
    · refine ax_iconst (pc := 29) (v := 0) C dX3_isAhead_29 (by decide) ?_
      refine ax_icmp_eq (pc := 30) (tgt := 49) C dX3_isAhead_30 (by decide) (fun h30 => ?_) (fun h30 => ?_)
      · refine ax_aload_0 (pc := 49) C dX3_isAhead_49 ?_
        refine ax_getR (pc := 50) C fX3_33 dX3_isAhead_50 hp.o rfl ?_
        refine ax_iload_1 (pc := 53) C dX3_isAhead_53 ?_
        refine ax_ian (pc := 54) C dX3_isAhead_54 hp.a8 (by omega) (by omega) ?_
        refine ax_aload_0 (pc := 55) C dX3_isAhead_55 ?_
        refine ax_getR (pc := 56) C fX3_33 dX3_isAhead_56 hp.o rfl ?_
        refine ax_iload_2 (pc := 59) C dX3_isAhead_59 ?_
        refine ax_ian (pc := 60) C dX3_isAhead_60 hp.a8 (by omega) (by omega) ?_
        refine ax_icmp_eq (pc := 61) (tgt := 85) C dX3_isAhead_61 (by decide) (fun h61 => ?_) (fun h61 => ?_)
        · refine ax_aload_0 (pc := 85) C dX3_isAhead_85 ?_
          refine ax_getR (pc := 86) C fX3_18 dX3_isAhead_86 hp.o rfl ?_
          refine ax_iload_1 (pc := 89) C dX3_isAhead_89 ?_
          refine ax_ian (pc := 90) C dX3_isAhead_90 hp.a3 (by omega) (by omega) ?_
          refine ax_aload_0 (pc := 91) C dX3_isAhead_91 ?_
          refine ax_getR (pc := 92) C fX3_18 dX3_isAhead_92 hp.o rfl ?_
          refine ax_iload_2 (pc := 95) C dX3_isAhead_95 ?_
          refine ax_ian (pc := 96) C dX3_isAhead_96 hp.a3 (by omega) (by omega) ?_
          refine ax_icmp_ge (pc := 97) (tgt := 104) C dX3_isAhead_97 (by decide) (fun h97 => ?_) (fun h97 => ?_)
          · refine ax_iconst (pc := 104) (v := 0) C dX3_isAhead_104 (by decide) ?_
            exact ax_zr (pc := 105) C rfl rfl dX3_isAhead_105 (by simp_all [hs_ah, ax_b, ← Int32.not_lt]) rfl
          · refine ax_iconst (pc := 100) (v := 1) C dX3_isAhead_100 (by decide) ?_
            refine ax_goto (pc := 101) (tgt := 105) C dX3_isAhead_101 (by decide) ?_
            exact ax_zr (pc := 105) C rfl rfl dX3_isAhead_105 (by simp_all [hs_ah, ax_b, ← Int32.not_lt]) rfl
        · refine ax_aload_0 (pc := 64) C dX3_isAhead_64 ?_
          refine ax_getR (pc := 65) C fX3_33 dX3_isAhead_65 hp.o rfl ?_
          refine ax_iload_1 (pc := 68) C dX3_isAhead_68 ?_
          refine ax_ian (pc := 69) C dX3_isAhead_69 hp.a8 (by omega) (by omega) ?_
          refine ax_aload_0 (pc := 70) C dX3_isAhead_70 ?_
          refine ax_getR (pc := 71) C fX3_33 dX3_isAhead_71 hp.o rfl ?_
          refine ax_iload_2 (pc := 74) C dX3_isAhead_74 ?_
          refine ax_ian (pc := 75) C dX3_isAhead_75 hp.a8 (by omega) (by omega) ?_
          refine ax_icmp_ge (pc := 76) (tgt := 83) C dX3_isAhead_76 (by decide) (fun h76 => ?_) (fun h76 => ?_)
          · refine ax_iconst (pc := 83) (v := 0) C dX3_isAhead_83 (by decide) ?_
            exact ax_zr (pc := 84) C rfl rfl dX3_isAhead_84 (by simp_all [hs_ah, ax_b, ← Int32.not_lt]) rfl
          · refine ax_iconst (pc := 79) (v := 1) C dX3_isAhead_79 (by decide) ?_
            refine ax_goto (pc := 80) (tgt := 84) C dX3_isAhead_80 (by decide) ?_
            exact ax_zr (pc := 84) C rfl rfl dX3_isAhead_84 (by simp_all [hs_ah, ax_b, ← Int32.not_lt]) rfl
      · refine ax_aload_0 (pc := 33) C dX3_isAhead_33 ?_
        refine ax_getR (pc := 34) C fX3_15 dX3_isAhead_34 hp.o rfl ?_
        refine ax_iload_2 (pc := 37) C dX3_isAhead_37 ?_
        refine ax_ian (pc := 38) C dX3_isAhead_38 hp.a2 (by omega) (by omega) ?_
        refine ax_iconst (pc := 39) (v := 3) C dX3_isAhead_39 (by decide) ?_
        refine ax_icmp_ne (pc := 40) (tgt := 47) C dX3_isAhead_40 (by decide) (fun h40 => ?_) (fun h40 => ?_)
        · refine ax_iconst (pc := 47) (v := 0) C dX3_isAhead_47 (by decide) ?_
          exact ax_zr (pc := 48) C rfl rfl dX3_isAhead_48 (by simp_all [hs_ah, ax_b, ← Int32.not_lt]) rfl
        · refine ax_iconst (pc := 43) (v := 1) C dX3_isAhead_43 (by decide) ?_
          refine ax_goto (pc := 44) (tgt := 48) C dX3_isAhead_44 (by decide) ?_
          exact ax_zr (pc := 48) C rfl rfl dX3_isAhead_48 (by simp_all [hs_ah, ax_b, ← Int32.not_lt]) rfl
    · refine ax_iconst (pc := 25) (v := 1) C dX3_isAhead_25 (by decide) ?_
      refine ax_goto (pc := 26) (tgt := 30) C dX3_isAhead_26 (by decide) ?_
      refine ax_icmp_eq (pc := 30) (tgt := 49) C dX3_isAhead_30 (by decide) (fun h30 => ?_) (fun h30 => ?_)
      · refine ax_aload_0 (pc := 49) C dX3_isAhead_49 ?_
        refine ax_getR (pc := 50) C fX3_33 dX3_isAhead_50 hp.o rfl ?_
        refine ax_iload_1 (pc := 53) C dX3_isAhead_53 ?_
        refine ax_ian (pc := 54) C dX3_isAhead_54 hp.a8 (by omega) (by omega) ?_
        refine ax_aload_0 (pc := 55) C dX3_isAhead_55 ?_
        refine ax_getR (pc := 56) C fX3_33 dX3_isAhead_56 hp.o rfl ?_
        refine ax_iload_2 (pc := 59) C dX3_isAhead_59 ?_
        refine ax_ian (pc := 60) C dX3_isAhead_60 hp.a8 (by omega) (by omega) ?_
        refine ax_icmp_eq (pc := 61) (tgt := 85) C dX3_isAhead_61 (by decide) (fun h61 => ?_) (fun h61 => ?_)
        · refine ax_aload_0 (pc := 85) C dX3_isAhead_85 ?_
          refine ax_getR (pc := 86) C fX3_18 dX3_isAhead_86 hp.o rfl ?_
          refine ax_iload_1 (pc := 89) C dX3_isAhead_89 ?_
          refine ax_ian (pc := 90) C dX3_isAhead_90 hp.a3 (by omega) (by omega) ?_
          refine ax_aload_0 (pc := 91) C dX3_isAhead_91 ?_
          refine ax_getR (pc := 92) C fX3_18 dX3_isAhead_92 hp.o rfl ?_
          refine ax_iload_2 (pc := 95) C dX3_isAhead_95 ?_
          refine ax_ian (pc := 96) C dX3_isAhead_96 hp.a3 (by omega) (by omega) ?_
          refine ax_icmp_ge (pc := 97) (tgt := 104) C dX3_isAhead_97 (by decide) (fun h97 => ?_) (fun h97 => ?_)
          · refine ax_iconst (pc := 104) (v := 0) C dX3_isAhead_104 (by decide) ?_
            exact ax_zr (pc := 105) C rfl rfl dX3_isAhead_105 (by simp_all [hs_ah, ax_b, ← Int32.not_lt]) rfl
          · refine ax_iconst (pc := 100) (v := 1) C dX3_isAhead_100 (by decide) ?_
            refine ax_goto (pc := 101) (tgt := 105) C dX3_isAhead_101 (by decide) ?_
            exact ax_zr (pc := 105) C rfl rfl dX3_isAhead_105 (by simp_all [hs_ah, ax_b, ← Int32.not_lt]) rfl
        · refine ax_aload_0 (pc := 64) C dX3_isAhead_64 ?_
          refine ax_getR (pc := 65) C fX3_33 dX3_isAhead_65 hp.o rfl ?_
          refine ax_iload_1 (pc := 68) C dX3_isAhead_68 ?_
          refine ax_ian (pc := 69) C dX3_isAhead_69 hp.a8 (by omega) (by omega) ?_
          refine ax_aload_0 (pc := 70) C dX3_isAhead_70 ?_
          refine ax_getR (pc := 71) C fX3_33 dX3_isAhead_71 hp.o rfl ?_
          refine ax_iload_2 (pc := 74) C dX3_isAhead_74 ?_
          refine ax_ian (pc := 75) C dX3_isAhead_75 hp.a8 (by omega) (by omega) ?_
          refine ax_icmp_ge (pc := 76) (tgt := 83) C dX3_isAhead_76 (by decide) (fun h76 => ?_) (fun h76 => ?_)
          · refine ax_iconst (pc := 83) (v := 0) C dX3_isAhead_83 (by decide) ?_
            exact ax_zr (pc := 84) C rfl rfl dX3_isAhead_84 (by simp_all [hs_ah, ax_b, ← Int32.not_lt]) rfl
          · refine ax_iconst (pc := 79) (v := 1) C dX3_isAhead_79 (by decide) ?_
            refine ax_goto (pc := 80) (tgt := 84) C dX3_isAhead_80 (by decide) ?_
            exact ax_zr (pc := 84) C rfl rfl dX3_isAhead_84 (by simp_all [hs_ah, ax_b, ← Int32.not_lt]) rfl
      · refine ax_aload_0 (pc := 33) C dX3_isAhead_33 ?_
        refine ax_getR (pc := 34) C fX3_15 dX3_isAhead_34 hp.o rfl ?_
        refine ax_iload_2 (pc := 37) C dX3_isAhead_37 ?_
        refine ax_ian (pc := 38) C dX3_isAhead_38 hp.a2 (by omega) (by omega) ?_
        refine ax_iconst (pc := 39) (v := 3) C dX3_isAhead_39 (by decide) ?_
        refine ax_icmp_ne (pc := 40) (tgt := 47) C dX3_isAhead_40 (by decide) (fun h40 => ?_) (fun h40 => ?_)
        · refine ax_iconst (pc := 47) (v := 0) C dX3_isAhead_47 (by decide) ?_
          exact ax_zr (pc := 48) C rfl rfl dX3_isAhead_48 (by simp_all [hs_ah, ax_b, ← Int32.not_lt]) rfl
        · refine ax_iconst (pc := 43) (v := 1) C dX3_isAhead_43 (by decide) ?_
          refine ax_goto (pc := 44) (tgt := 48) C dX3_isAhead_44 (by decide) ?_
          exact ax_zr (pc := 48) C rfl rfl dX3_isAhead_48 (by simp_all [hs_ah, ax_b, ← Int32.not_lt]) rfl
  · refine ax_iconst (pc := 10) (v := 1) C dX3_isAhead_10 (by decide) ?_
    refine ax_goto (pc := 11) (tgt := 15) C dX3_isAhead_11 (by decide) ?_
    refine ax_aload_0 (pc := 15) C dX3_isAhead_15 ?_
    refine ax_getR (pc := 16) C fX3_15 dX3_isAhead_16 hp.o rfl ?_
    refine ax_iload_2 (pc := 19) C dX3_isAhead_19 ?_
    refine ax_ian (pc := 20) C dX3_isAhead_20 hp.a2 (by omega) (by omega) ?_
    refine ax_iconst (pc := 21) (v := 3) C dX3_isAhead_21 (by decide) ?_
    refine ax_icmp_ne (pc := 22) (tgt := 29) C dX3_isAhead_22 (by decide) (fun h22 => ?_) (fun h22 => ?_)
    · refine ax_iconst (pc := 29) (v := 0) C dX3_isAhead_29 (by decide) ?_
      refine ax_icmp_eq (pc := 30) (tgt := 49) C dX3_isAhead_30 (by decide) (fun h30 => ?_) (fun h30 => ?_)
      · refine ax_aload_0 (pc := 49) C dX3_isAhead_49 ?_
        refine ax_getR (pc := 50) C fX3_33 dX3_isAhead_50 hp.o rfl ?_
        refine ax_iload_1 (pc := 53) C dX3_isAhead_53 ?_
        refine ax_ian (pc := 54) C dX3_isAhead_54 hp.a8 (by omega) (by omega) ?_
        refine ax_aload_0 (pc := 55) C dX3_isAhead_55 ?_
        refine ax_getR (pc := 56) C fX3_33 dX3_isAhead_56 hp.o rfl ?_
        refine ax_iload_2 (pc := 59) C dX3_isAhead_59 ?_
        refine ax_ian (pc := 60) C dX3_isAhead_60 hp.a8 (by omega) (by omega) ?_
        refine ax_icmp_eq (pc := 61) (tgt := 85) C dX3_isAhead_61 (by decide) (fun h61 => ?_) (fun h61 => ?_)
        · refine ax_aload_0 (pc := 85) C dX3_isAhead_85 ?_
          refine ax_getR (pc := 86) C fX3_18 dX3_isAhead_86 hp.o rfl ?_
          refine ax_iload_1 (pc := 89) C dX3_isAhead_89 ?_
          refine ax_ian (pc := 90) C dX3_isAhead_90 hp.a3 (by omega) (by omega) ?_
          refine ax_aload_0 (pc := 91) C dX3_isAhead_91 ?_
          refine ax_getR (pc := 92) C fX3_18 dX3_isAhead_92 hp.o rfl ?_
          refine ax_iload_2 (pc := 95) C dX3_isAhead_95 ?_
          refine ax_ian (pc := 96) C dX3_isAhead_96 hp.a3 (by omega) (by omega) ?_
          refine ax_icmp_ge (pc := 97) (tgt := 104) C dX3_isAhead_97 (by decide) (fun h97 => ?_) (fun h97 => ?_)
          · refine ax_iconst (pc := 104) (v := 0) C dX3_isAhead_104 (by decide) ?_
            exact ax_zr (pc := 105) C rfl rfl dX3_isAhead_105 (by simp_all [hs_ah, ax_b, ← Int32.not_lt]) rfl
          · refine ax_iconst (pc := 100) (v := 1) C dX3_isAhead_100 (by decide) ?_
            refine ax_goto (pc := 101) (tgt := 105) C dX3_isAhead_101 (by decide) ?_
            exact ax_zr (pc := 105) C rfl rfl dX3_isAhead_105 (by simp_all [hs_ah, ax_b, ← Int32.not_lt]) rfl
        · refine ax_aload_0 (pc := 64) C dX3_isAhead_64 ?_
          refine ax_getR (pc := 65) C fX3_33 dX3_isAhead_65 hp.o rfl ?_
          refine ax_iload_1 (pc := 68) C dX3_isAhead_68 ?_
          refine ax_ian (pc := 69) C dX3_isAhead_69 hp.a8 (by omega) (by omega) ?_
          refine ax_aload_0 (pc := 70) C dX3_isAhead_70 ?_
          refine ax_getR (pc := 71) C fX3_33 dX3_isAhead_71 hp.o rfl ?_
          refine ax_iload_2 (pc := 74) C dX3_isAhead_74 ?_
          refine ax_ian (pc := 75) C dX3_isAhead_75 hp.a8 (by omega) (by omega) ?_
          refine ax_icmp_ge (pc := 76) (tgt := 83) C dX3_isAhead_76 (by decide) (fun h76 => ?_) (fun h76 => ?_)
          · refine ax_iconst (pc := 83) (v := 0) C dX3_isAhead_83 (by decide) ?_
            exact ax_zr (pc := 84) C rfl rfl dX3_isAhead_84 (by simp_all [hs_ah, ax_b, ← Int32.not_lt]) rfl
          · refine ax_iconst (pc := 79) (v := 1) C dX3_isAhead_79 (by decide) ?_
            refine ax_goto (pc := 80) (tgt := 84) C dX3_isAhead_80 (by decide) ?_
            exact ax_zr (pc := 84) C rfl rfl dX3_isAhead_84 (by simp_all [hs_ah, ax_b, ← Int32.not_lt]) rfl
      · refine ax_aload_0 (pc := 33) C dX3_isAhead_33 ?_
        refine ax_getR (pc := 34) C fX3_15 dX3_isAhead_34 hp.o rfl ?_
        refine ax_iload_2 (pc := 37) C dX3_isAhead_37 ?_
        refine ax_ian (pc := 38) C dX3_isAhead_38 hp.a2 (by omega) (by omega) ?_
        refine ax_iconst (pc := 39) (v := 3) C dX3_isAhead_39 (by decide) ?_
        refine ax_icmp_ne (pc := 40) (tgt := 47) C dX3_isAhead_40 (by decide) (fun h40 => ?_) (fun h40 => ?_)
        · refine ax_iconst (pc := 47) (v := 0) C dX3_isAhead_47 (by decide) ?_
          exact ax_zr (pc := 48) C rfl rfl dX3_isAhead_48 (by simp_all [hs_ah, ax_b, ← Int32.not_lt]) rfl
        · refine ax_iconst (pc := 43) (v := 1) C dX3_isAhead_43 (by decide) ?_
          refine ax_goto (pc := 44) (tgt := 48) C dX3_isAhead_44 (by decide) ?_
          exact ax_zr (pc := 48) C rfl rfl dX3_isAhead_48 (by simp_all [hs_ah, ax_b, ← Int32.not_lt]) rfl
    · refine ax_iconst (pc := 25) (v := 1) C dX3_isAhead_25 (by decide) ?_
      refine ax_goto (pc := 26) (tgt := 30) C dX3_isAhead_26 (by decide) ?_
      refine ax_icmp_eq (pc := 30) (tgt := 49) C dX3_isAhead_30 (by decide) (fun h30 => ?_) (fun h30 => ?_)
      · refine ax_aload_0 (pc := 49) C dX3_isAhead_49 ?_
        refine ax_getR (pc := 50) C fX3_33 dX3_isAhead_50 hp.o rfl ?_
        refine ax_iload_1 (pc := 53) C dX3_isAhead_53 ?_
        refine ax_ian (pc := 54) C dX3_isAhead_54 hp.a8 (by omega) (by omega) ?_
        refine ax_aload_0 (pc := 55) C dX3_isAhead_55 ?_
        refine ax_getR (pc := 56) C fX3_33 dX3_isAhead_56 hp.o rfl ?_
        refine ax_iload_2 (pc := 59) C dX3_isAhead_59 ?_
        refine ax_ian (pc := 60) C dX3_isAhead_60 hp.a8 (by omega) (by omega) ?_
        refine ax_icmp_eq (pc := 61) (tgt := 85) C dX3_isAhead_61 (by decide) (fun h61 => ?_) (fun h61 => ?_)
        · refine ax_aload_0 (pc := 85) C dX3_isAhead_85 ?_
          refine ax_getR (pc := 86) C fX3_18 dX3_isAhead_86 hp.o rfl ?_
          refine ax_iload_1 (pc := 89) C dX3_isAhead_89 ?_
          refine ax_ian (pc := 90) C dX3_isAhead_90 hp.a3 (by omega) (by omega) ?_
          refine ax_aload_0 (pc := 91) C dX3_isAhead_91 ?_
          refine ax_getR (pc := 92) C fX3_18 dX3_isAhead_92 hp.o rfl ?_
          refine ax_iload_2 (pc := 95) C dX3_isAhead_95 ?_
          refine ax_ian (pc := 96) C dX3_isAhead_96 hp.a3 (by omega) (by omega) ?_
          refine ax_icmp_ge (pc := 97) (tgt := 104) C dX3_isAhead_97 (by decide) (fun h97 => ?_) (fun h97 => ?_)
          · refine ax_iconst (pc := 104) (v := 0) C dX3_isAhead_104 (by decide) ?_
            exact ax_zr (pc := 105) C rfl rfl dX3_isAhead_105 (by simp_all [hs_ah, ax_b, ← Int32.not_lt]) rfl
          · refine ax_iconst (pc := 100) (v := 1) C dX3_isAhead_100 (by decide) ?_
            refine ax_goto (pc := 101) (tgt := 105) C dX3_isAhead_101 (by decide) ?_
            exact ax_zr (pc := 105) C rfl rfl dX3_isAhead_105 (by simp_all [hs_ah, ax_b, ← Int32.not_lt]) rfl
        · refine ax_aload_0 (pc := 64) C dX3_isAhead_64 ?_
          refine ax_getR (pc := 65) C fX3_33 dX3_isAhead_65 hp.o rfl ?_
          refine ax_iload_1 (pc := 68) C dX3_isAhead_68 ?_
          refine ax_ian (pc := 69) C dX3_isAhead_69 hp.a8 (by omega) (by omega) ?_
          refine ax_aload_0 (pc := 70) C dX3_isAhead_70 ?_
          refine ax_getR (pc := 71) C fX3_33 dX3_isAhead_71 hp.o rfl ?_
          refine ax_iload_2 (pc := 74) C dX3_isAhead_74 ?_
          refine ax_ian (pc := 75) C dX3_isAhead_75 hp.a8 (by omega) (by omega) ?_
          refine ax_icmp_ge (pc := 76) (tgt := 83) C dX3_isAhead_76 (by decide) (fun h76 => ?_) (fun h76 => ?_)
          · refine ax_iconst (pc := 83) (v := 0) C dX3_isAhead_83 (by decide) ?_
            exact ax_zr (pc := 84) C rfl rfl dX3_isAhead_84 (by simp_all [hs_ah, ax_b, ← Int32.not_lt]) rfl
          · refine ax_iconst (pc := 79) (v := 1) C dX3_isAhead_79 (by decide) ?_
            refine ax_goto (pc := 80) (tgt := 84) C dX3_isAhead_80 (by decide) ?_
            exact ax_zr (pc := 84) C rfl rfl dX3_isAhead_84 (by simp_all [hs_ah, ax_b, ← Int32.not_lt]) rfl
      · refine ax_aload_0 (pc := 33) C dX3_isAhead_33 ?_
        refine ax_getR (pc := 34) C fX3_15 dX3_isAhead_34 hp.o rfl ?_
        refine ax_iload_2 (pc := 37) C dX3_isAhead_37 ?_
        refine ax_ian (pc := 38) C dX3_isAhead_38 hp.a2 (by omega) (by omega) ?_
        refine ax_iconst (pc := 39) (v := 3) C dX3_isAhead_39 (by decide) ?_
        refine ax_icmp_ne (pc := 40) (tgt := 47) C dX3_isAhead_40 (by decide) (fun h40 => ?_) (fun h40 => ?_)
        · refine ax_iconst (pc := 47) (v := 0) C dX3_isAhead_47 (by decide) ?_
          exact ax_zr (pc := 48) C rfl rfl dX3_isAhead_48 (by simp_all [hs_ah, ax_b, ← Int32.not_lt]) rfl
        · refine ax_iconst (pc := 43) (v := 1) C dX3_isAhead_43 (by decide) ?_
          refine ax_goto (pc := 44) (tgt := 48) C dX3_isAhead_44 (by decide) ?_
          exact ax_zr (pc := 48) C rfl rfl dX3_isAhead_48 (by simp_all [hs_ah, ax_b, ← Int32.not_lt]) rfl

set_option maxRecDepth 20000 in
set_option maxHeartbeats 4000000 in
theorem w_X3_foremostOf {Y : ax_Y} {ad : Nat → Nat} (F : ax_F Y) {l : Launch} {σ : ax_Z} {p n : Nat} (hp : ax_isP p) (hn : σ p 10 = nI n) (h7 : n ≤ 7) (rd : Nat → Bool) : ax_m Y ad l iX3_foremostOf 1 σ [.ref (ad p), .int (nI (ms_k rd n))] (some (.int (fN (hs_f rd (hp_ah σ p) n)))) σ := by
  refine ax_m.of F kX3_foremostOf.1 [some (.ref (ad p)), some (.int (nI (ms_k rd n))), none, none, none] rfl (Nat.le_of_ble_eq_true rfl) (fun x C => ?_)
  have loop : ∀ (q : Nat) (c : Nat) (o : Option Nat), hs_f rd (hp_ah σ p) c = o → c ≤ n → n < c + q → ax_S x Y ad 0 0 (ax_Q x Y ad (some (.int (fN (hs_f rd (hp_ah σ p) n)))) 96 (ax_g Y ad σ) 0 0) σ 7 [some (.ref (ad p)), some (.int (nI (ms_k rd n))), some (.int (fN o)), some (.int (fA o)), some (.int (nI c))] [] := by
    intro q
    induction q with
    | zero => intro c o ho h1 h2; exfalso; omega
    | succ q ih =>
      intro c o ho h1 h2
      cases o with
      | none =>
        refine ax_iload_4 (pc := 7) C dX3_foremostOf_7 ?_
        refine ax_aload_0 (pc := 9) C dX3_foremostOf_9 ?_
        refine ax_getI (pc := 10) C fX3_47 dX3_foremostOf_10 hp.o rfl ?_
        refine ax_icmp_ge (pc := 13) (tgt := 50) C dX3_foremostOf_13 (by decide) (fun h13 => ?_) (fun h13 => ?_)
        · have hcn : ¬ c < n := fun q => nI_ge q (by omega) (by rw [← hn]; exact h13)
          refine ax_iload_2 (pc := 50) C dX3_foremostOf_50 ?_
          exact ax_ir (pc := 51) C rfl dX3_foremostOf_51 (by rw [show n = c by omega, ho]) rfl
        · have hcn : c < n := Nat.lt_of_not_le (fun q => h13 (by rw [hn]; exact nI_le q (by omega)))
          refine ax_iload_1 (pc := 16) C dX3_foremostOf_16 ?_
          refine ax_iload_4 (pc := 17) C dX3_foremostOf_17 ?_
          refine ax_ishr (pc := 19) C dX3_foremostOf_19 ?_
          refine ax_iconst (pc := 20) (v := 1) C dX3_foremostOf_20 (by decide) ?_
          refine ax_iand (pc := 21) C dX3_foremostOf_21 ?_
          refine ax_if_eq (pc := 22) (tgt := 44) C dX3_foremostOf_22 (by decide) (fun h22 => ?_) (fun h22 => ?_)
          · rw [ms_test hcn (by omega)] at h22
            refine ax_iinc_4 (pc := 44) C dX3_foremostOf_44 (1) (by decide) rfl ?_
            refine ax_goto (pc := 47) (tgt := 7) C dX3_foremostOf_47 (by decide) ?_
            refine ax_Leq ?_ (ih (c + 1) none (by simp_all [hs_f]) (by omega) (by omega))
            rw [nI_1]
          · rw [ms_test hcn (by omega)] at h22
            refine ax_iload_3 (pc := 25) C dX3_foremostOf_25 ?_
            refine ax_if_eq (pc := 26) (tgt := 39) C dX3_foremostOf_26 (by decide) (fun _ => ?_) (fun z => False.elim (z rfl))
            refine ax_iload_4 (pc := 39) C dX3_foremostOf_39 ?_
            refine ax_istore_2 (pc := 41) C dX3_foremostOf_41 rfl ?_
            refine ax_iconst (pc := 42) (v := 1) C dX3_foremostOf_42 (by decide) ?_
            refine ax_istore_3 (pc := 43) C dX3_foremostOf_43 rfl ?_
            refine ax_iinc_4 (pc := 44) C dX3_foremostOf_44 (1) (by decide) rfl ?_
            refine ax_goto (pc := 47) (tgt := 7) C dX3_foremostOf_47 (by decide) ?_
            refine ax_Leq ?_ (ih (c + 1) (some c) (by simp_all [hs_f]) (by omega) (by omega))
            rw [nI_1]
            rfl
      | some f =>
        have hfl := (hs_f_lt ho).1
        refine ax_iload_4 (pc := 7) C dX3_foremostOf_7 ?_
        refine ax_aload_0 (pc := 9) C dX3_foremostOf_9 ?_
        refine ax_getI (pc := 10) C fX3_47 dX3_foremostOf_10 hp.o rfl ?_
        refine ax_icmp_ge (pc := 13) (tgt := 50) C dX3_foremostOf_13 (by decide) (fun h13 => ?_) (fun h13 => ?_)
        · have hcn : ¬ c < n := fun q => nI_ge q (by omega) (by rw [← hn]; exact h13)
          refine ax_iload_2 (pc := 50) C dX3_foremostOf_50 ?_
          exact ax_ir (pc := 51) C rfl dX3_foremostOf_51 (by rw [show n = c by omega, ho]) rfl
        · have hcn : c < n := Nat.lt_of_not_le (fun q => h13 (by rw [hn]; exact nI_le q (by omega)))
          refine ax_iload_1 (pc := 16) C dX3_foremostOf_16 ?_
          refine ax_iload_4 (pc := 17) C dX3_foremostOf_17 ?_
          refine ax_ishr (pc := 19) C dX3_foremostOf_19 ?_
          refine ax_iconst (pc := 20) (v := 1) C dX3_foremostOf_20 (by decide) ?_
          refine ax_iand (pc := 21) C dX3_foremostOf_21 ?_
          refine ax_if_eq (pc := 22) (tgt := 44) C dX3_foremostOf_22 (by decide) (fun h22 => ?_) (fun h22 => ?_)
          · rw [ms_test hcn (by omega)] at h22
            refine ax_iinc_4 (pc := 44) C dX3_foremostOf_44 (1) (by decide) rfl ?_
            refine ax_goto (pc := 47) (tgt := 7) C dX3_foremostOf_47 (by decide) ?_
            refine ax_Leq ?_ (ih (c + 1) (some f) (by simp_all [hs_f]) (by omega) (by omega))
            rw [nI_1]
          · rw [ms_test hcn (by omega)] at h22
            refine ax_iload_3 (pc := 25) C dX3_foremostOf_25 ?_
            refine ax_if_eq (pc := 26) (tgt := 39) C dX3_foremostOf_26 (by decide) (fun z => False.elim (absurd z (by show ¬ (1 : Int32) = 0; decide))) (fun _ => ?_)
            refine ax_aload_0 (pc := 29) C dX3_foremostOf_29 ?_
            refine ax_iload_4 (pc := 30) C dX3_foremostOf_30 ?_
            refine ax_iload_2 (pc := 32) C dX3_foremostOf_32 ?_
            refine ax_callVi (pc := 33) C (w_X3_isAhead F (d := f) hp (by omega) (by omega)) kX3_isAhead mX3_113 dX3_foremostOf_33 (by decide) rfl hp.o rfl rfl rfl (Nat.le_of_ble_eq_true rfl) rfl ⟨Nat.le_refl _, Nat.le_refl _⟩ ?_
            refine ax_if_eq (pc := 36) (tgt := 44) C dX3_foremostOf_36 (by decide) (fun h36 => ?_) (fun h36 => ?_)
            · have h36 := ax_beq h36
              refine ax_iinc_4 (pc := 44) C dX3_foremostOf_44 (1) (by decide) rfl ?_
              refine ax_goto (pc := 47) (tgt := 7) C dX3_foremostOf_47 (by decide) ?_
              refine ax_Leq ?_ (ih (c + 1) (some f) (by simp_all [hs_f]) (by omega) (by omega))
              rw [nI_1]
            · have h36 := ax_bne h36
              refine ax_iload_4 (pc := 39) C dX3_foremostOf_39 ?_
              refine ax_istore_2 (pc := 41) C dX3_foremostOf_41 rfl ?_
              refine ax_iconst (pc := 42) (v := 1) C dX3_foremostOf_42 (by decide) ?_
              refine ax_istore_3 (pc := 43) C dX3_foremostOf_43 rfl ?_
              refine ax_iinc_4 (pc := 44) C dX3_foremostOf_44 (1) (by decide) rfl ?_
              refine ax_goto (pc := 47) (tgt := 7) C dX3_foremostOf_47 (by decide) ?_
              refine ax_Leq ?_ (ih (c + 1) (some c) (by simp_all [hs_f]) (by omega) (by omega))
              rw [nI_1]
              rfl
  refine ax_iconst (pc := 0) (v := 0) C dX3_foremostOf_0 (by decide) ?_
  refine ax_istore_2 (pc := 1) C dX3_foremostOf_1 rfl ?_
  refine ax_iconst (pc := 2) (v := 0) C dX3_foremostOf_2 (by decide) ?_
  refine ax_istore_3 (pc := 3) C dX3_foremostOf_3 rfl ?_
  refine ax_iconst (pc := 4) (v := 0) C dX3_foremostOf_4 (by decide) ?_
  refine ax_istore_4 (pc := 5) C dX3_foremostOf_5 rfl ?_
  exact loop (n + 1) 0 none rfl (by omega) (by omega)

set_option maxRecDepth 20000 in
set_option maxHeartbeats 4000000 in
theorem w_X3_markGone {Y : ax_Y} {ad : Nat → Nat} (F : ax_F Y) {l : Launch} {σ : ax_Z} {p n : Nat} (hp : ax_isP p) (hn : σ p 10 = nI n) (h7 : n ≤ 7) (tr : Nat → Bool) : ax_m Y ad l iX3_markGone 0 σ [.ref (ad p), .int (nI (ms_k tr n))] none (hs_gone σ (p + 6) tr (σ p 11) n) := by
  refine ax_m.of F kX3_markGone.1 [some (.ref (ad p)), some (.int (nI (ms_k tr n))), none] rfl (Nat.le_of_ble_eq_true rfl) (fun x C => ?_)
  have loop : ∀ (q : Nat) (c : Nat) (τ : ax_Z), τ = hs_gone σ (p + 6) tr (σ p 11) c → c ≤ n → n < c + q → ax_S x Y ad 0 0 (ax_Q x Y ad none 96 (ax_g Y ad (hs_gone σ (p + 6) tr (σ p 11) n)) 0 0) τ 2 [some (.ref (ad p)), some (.int (nI (ms_k tr n))), some (.int (nI c))] [] := by
    intro q
    induction q with
    | zero => intro c τ e h1 h2; exfalso; omega
    | succ q ih =>
      intro c τ e h1 h2
      have e10 : τ p 10 = nI n := by rw [e, ← hn]; simp [hs_gone]
      have e11 : τ p 11 = σ p 11 := by rw [e]; simp [hs_gone]
      refine ax_iload_2 (pc := 2) C dX3_markGone_2 ?_
      refine ax_aload_0 (pc := 3) C dX3_markGone_3 ?_
      refine ax_getI (pc := 4) C fX3_47 dX3_markGone_4 hp.o rfl ?_
      refine ax_icmp_ge (pc := 7) (tgt := 34) C dX3_markGone_7 (by decide) (fun h7 => ?_) (fun h7 => ?_)
      · have hcn : ¬ c < n := fun q => nI_ge q (by omega) (by rw [← e10]; exact h7)
        exact ax_vr (pc := 34) C rfl dX3_markGone_34 (by rw [e, show c = n by omega])
      · have hcn : c < n := Nat.lt_of_not_le (fun q => h7 (by rw [e10]; exact nI_le q (by omega)))
        refine ax_iload_1 (pc := 10) C dX3_markGone_10 ?_
        refine ax_iload_2 (pc := 11) C dX3_markGone_11 ?_
        refine ax_ishr (pc := 12) C dX3_markGone_12 ?_
        refine ax_iconst (pc := 13) (v := 1) C dX3_markGone_13 (by decide) ?_
        refine ax_iand (pc := 14) C dX3_markGone_14 ?_
        refine ax_if_eq (pc := 15) (tgt := 28) C dX3_markGone_15 (by decide) (fun h15 => ?_) (fun h15 => ?_)
        · rw [ms_test hcn (by omega)] at h15
          refine ax_iinc_2 (pc := 28) C dX3_markGone_28 (1) (by decide) rfl ?_
          refine ax_goto (pc := 31) (tgt := 2) C dX3_markGone_31 (by decide) ?_
          have ht : ¬ tr c = true := by simp_all
          refine ax_Leq (by rw [nI_1]) (ih (c + 1) _ ?_ (by omega) (by omega))
          subst e
          exact (hs_gone_f ht).symm
        · rw [ms_test hcn (by omega)] at h15
          refine ax_aload_0 (pc := 18) C dX3_markGone_18 ?_
          refine ax_getR (pc := 19) C fX3_27 dX3_markGone_19 hp.o rfl ?_
          refine ax_iload_2 (pc := 22) C dX3_markGone_22 ?_
          refine ax_aload_0 (pc := 23) C dX3_markGone_23 ?_
          refine ax_getI (pc := 24) C fX3_51 dX3_markGone_24 hp.o rfl ?_
          refine ax_isn (pc := 27) C dX3_markGone_27 hp.a6 (by omega) (by omega) ?_
          refine ax_iinc_2 (pc := 28) C dX3_markGone_28 (1) (by decide) rfl ?_
          refine ax_goto (pc := 31) (tgt := 2) C dX3_markGone_31 (by decide) ?_
          have ht : tr c = true := by simp_all
          refine ax_Leq (by rw [nI_1]) (ih (c + 1) _ ?_ (by omega) (by omega))
          rw [e11]
          subst e
          exact hs_gone_t ht
  refine ax_iconst (pc := 0) (v := 0) C dX3_markGone_0 (by decide) ?_
  refine ax_istore_2 (pc := 1) C dX3_markGone_1 rfl ?_
  exact loop (n + 1) 0 σ hs_gone_0.symm (by omega) (by omega)

set_option maxRecDepth 20000 in
set_option maxHeartbeats 4000000 in
theorem w_X3_tollFor {Y : ax_Y} {ad : Nat → Nat} (F : ax_F Y) {l : Launch} {σ : ax_Z} {p k : Nat} (hp : ax_isP p) (hk : k < 100) : ax_m Y ad l iX3_tollFor 1 σ [.ref (ad p), .int (nI k)] (some (.int (hs_toll (σ (p + 1)) k))) σ := by
  refine ax_m.of F kX3_tollFor.1 [some (.ref (ad p)), some (.int (nI k))] rfl (Nat.le_of_ble_eq_true rfl) (fun x C => ?_)
  refine ax_iload_1 (pc := 0) C dX3_tollFor_0 ?_
  refine ax_iconst (pc := 1) (v := 1) C dX3_tollFor_1 (by decide) ?_
  refine ax_icmp_ge (pc := 2) (tgt := 9) C dX3_tollFor_2 (by decide) (fun h2 => ?_) (fun h2 => ?_)
  · have hk0 : 0 < k := Nat.pos_of_ne_zero (fun q => by subst q; exact absurd h2 (by decide))
    refine ax_aload_0 (pc := 9) C dX3_tollFor_9 ?_
    refine ax_getR (pc := 10) C fX3_9 dX3_tollFor_10 hp.o rfl ?_
    refine ax_iload_1 (pc := 13) C dX3_tollFor_13 ?_
    refine ax_bipush (pc := 14) (v := 6) C dX3_tollFor_14 (by decide) ?_
    refine ax_min (pc := 16) C (by decide) mi_X3 dX3_tollFor_16 (Nat.le_of_ble_eq_true rfl) rfl ⟨Nat.le_refl _, Nat.le_refl _⟩ ?_
    refine ax_iconst (pc := 19) (v := 1) C dX3_tollFor_19 (by decide) ?_
    refine ax_isub (pc := 20) C dX3_tollFor_20 ?_
    refine ax_iae (pc := 21) (c := min k 6 - 1) C dX3_tollFor_21 hp.a1 (hs_tix hk0 (by omega)) (by omega) (by omega) ?_
    exact ax_ir (pc := 22) C rfl dX3_tollFor_22 (by rw [hs_toll, if_neg (by omega)]) rfl
  · have hk0 : k = 0 := by
      rcases Nat.eq_zero_or_pos k with q | q
      · exact q
      · exact absurd (nI_le (a := 1) q (by omega)) h2
    refine ax_iconst (pc := 5) (v := 0) C dX3_tollFor_5 (by decide) ?_
    refine ax_goto (pc := 6) (tgt := 22) C dX3_tollFor_6 (by decide) ?_
    exact ax_ir (pc := 22) C rfl dX3_tollFor_22 (by rw [hk0]; rfl) rfl


set_option maxRecDepth 20000 in
set_option maxHeartbeats 4000000 in
theorem w_X3_goBy {Y : ax_Y} {ad : Nat → Nat} (F : ax_F Y) {l : Launch} {σ : ax_Z} {p n : Nat} (hp : ax_isP p) (hn : σ p 10 = nI n) (h7 : n ≤ 7) {h : Nat} (hr : σ p 11 = nI h) (hh12 : h < 12) : ax_m Y ad l iX3_goBy 2 σ [.ref (ad p)] (some (.int (nI (hp_tm σ p n)))) (hp_go σ p n h) := by
  have hh : (0 : Int32) ≤ σ p 11 ∧ σ p 11 ≤ 11 := by
    rw [hr]
    exact ⟨nI_pos' (by omega), nI_le (b := 11) (by omega) (by omega)⟩
  have hcc := ms_c_le (hp_tr σ p n) n
  have htr : nI (ms_k (hp_rd σ p n) n) ||| nI (ms_k (fun c => hs_fo (σ (p + 2)) c && hp_st σ p c) n) = nI (ms_k (hp_tr σ p n) n) := by rw [nI_or, ms_or]; rfl
  have hbc := jd_bc_ms (hp_tr σ p n) h7
  refine ax_m.of F kX3_goBy.1 [some (.ref (ad p)), none, none, none, none] rfl (Nat.le_of_ble_eq_true rfl) (fun x C => ?_)
  cases ho : hp_f σ p n with
  | none =>
    refine ax_aload_0 (pc := 0) C dX3_goBy_0 ?_
    refine ax_getI (pc := 1) C fX3_51 dX3_goBy_1 hp.o rfl ?_
    refine ax_callNi (pc := 4) C (w_X6_isHour F) kX6_isHour mX3_80 dX3_goBy_4 (by decide) rfl rfl (Nat.le_of_ble_eq_true rfl) rfl ⟨Nat.le_refl _, Nat.le_refl _⟩ ?_
    refine ax_if_ne (pc := 7) (tgt := 12) C dX3_goBy_7 (by decide) (fun _ => ?_) (fun z => False.elim (absurd hh (ax_beq z)))
    refine ax_aload_0 (pc := 12) C dX3_goBy_12 ?_
    refine ax_callVi (pc := 13) C (w_X3_standing F hp hn h7) kX3_standing mX3_84 dX3_goBy_13 (by decide) rfl hp.o rfl rfl rfl (Nat.le_of_ble_eq_true rfl) rfl ⟨Nat.le_refl _, Nat.le_refl _⟩ ?_
    refine ax_istore_1 (pc := 16) C dX3_goBy_16 rfl ?_
    refine ax_aload_0 (pc := 17) C dX3_goBy_17 ?_
    refine ax_iload_1 (pc := 18) C dX3_goBy_18 ?_
    refine ax_callVi (pc := 19) C (show ax_m Y ad _ iX3_readyOf 1 σ _ (some (.int (nI (ms_k (hp_rd σ p n) n)))) σ from w_X3_readyOf F hp hn h7 (hp_st σ p)) kX3_readyOf mX3_87 dX3_goBy_19 (by decide) rfl hp.o rfl rfl rfl (Nat.le_of_ble_eq_true rfl) rfl ⟨Nat.le_refl _, Nat.le_refl _⟩ ?_
    refine ax_istore_2 (pc := 22) C dX3_goBy_22 rfl ?_
    refine ax_iconst (pc := 23) (v := 0) C dX3_goBy_23 (by decide) ?_
    refine ax_istore_3 (pc := 24) C dX3_goBy_24 rfl ?_
    refine ax_iload_2 (pc := 25) C dX3_goBy_25 ?_
    refine ax_if_eq (pc := 26) (tgt := 75) C dX3_goBy_26 (by decide) (fun _ => ?_) (fun z => False.elim (z ((ms_zero (by omega)).mpr (hs_f_none.mp ho))))
    refine ax_aload_0 (pc := 75) C dX3_goBy_75 ?_
    refine ax_dup (pc := 76) C dX3_goBy_76 rfl ?_
    refine ax_getI (pc := 77) C fX3_51 dX3_goBy_77 hp.o rfl ?_
    refine ax_iconst (pc := 80) (v := 1) C dX3_goBy_80 (by decide) ?_
    refine ax_iadd (pc := 81) C dX3_goBy_81 ?_
    refine ax_putI (pc := 82) C fX3_51 dX3_goBy_82 hp.o rfl rfl rfl ?_
    refine ax_iload_3 (pc := 85) C dX3_goBy_85 ?_
    exact ax_ir (pc := 86) C rfl dX3_goBy_86 (by simp only [hp_tm, ho]; rfl) (by simp only [hp_go, ho]; rw [hr, nI_1])
  | some f =>
    have hfl := hs_f_lt ho
    have r1 : ax_up σ (p + 9) h (nI f) (p + 1) = σ (p + 1) := ax_row_ne (by omega)
    have e11a : ∀ v w : Int32, ax_up (ax_up σ (p + 9) h v) (p + 7) f w p 11 = nI h := by
      intro v w
      rw [← hr]
      simp [ax_up]
    have e11b : ∀ (τ : ax_Z) (v : Int32), hs_gone τ (p + 6) (hp_tr σ p n) v n p 11 = τ p 11 := by
      intro τ v
      simp [hs_gone]
    refine ax_aload_0 (pc := 0) C dX3_goBy_0 ?_
    refine ax_getI (pc := 1) C fX3_51 dX3_goBy_1 hp.o rfl ?_
    refine ax_callNi (pc := 4) C (w_X6_isHour F) kX6_isHour mX3_80 dX3_goBy_4 (by decide) rfl rfl (Nat.le_of_ble_eq_true rfl) rfl ⟨Nat.le_refl _, Nat.le_refl _⟩ ?_
    refine ax_if_ne (pc := 7) (tgt := 12) C dX3_goBy_7 (by decide) (fun _ => ?_) (fun z => False.elim (absurd hh (ax_beq z)))
    refine ax_aload_0 (pc := 12) C dX3_goBy_12 ?_
    refine ax_callVi (pc := 13) C (w_X3_standing F hp hn h7) kX3_standing mX3_84 dX3_goBy_13 (by decide) rfl hp.o rfl rfl rfl (Nat.le_of_ble_eq_true rfl) rfl ⟨Nat.le_refl _, Nat.le_refl _⟩ ?_
    refine ax_istore_1 (pc := 16) C dX3_goBy_16 rfl ?_
    refine ax_aload_0 (pc := 17) C dX3_goBy_17 ?_
    refine ax_iload_1 (pc := 18) C dX3_goBy_18 ?_
    refine ax_callVi (pc := 19) C (show ax_m Y ad _ iX3_readyOf 1 σ _ (some (.int (nI (ms_k (hp_rd σ p n) n)))) σ from w_X3_readyOf F hp hn h7 (hp_st σ p)) kX3_readyOf mX3_87 dX3_goBy_19 (by decide) rfl hp.o rfl rfl rfl (Nat.le_of_ble_eq_true rfl) rfl ⟨Nat.le_refl _, Nat.le_refl _⟩ ?_
    refine ax_istore_2 (pc := 22) C dX3_goBy_22 rfl ?_
    refine ax_iconst (pc := 23) (v := 0) C dX3_goBy_23 (by decide) ?_
    refine ax_istore_3 (pc := 24) C dX3_goBy_24 rfl ?_
    refine ax_iload_2 (pc := 25) C dX3_goBy_25 ?_
    refine ax_if_eq (pc := 26) (tgt := 75) C dX3_goBy_26 (by decide) (fun z => False.elim (by have := (ms_zero (by omega)).mp z f hfl.1; rw [show _ = true from hfl.2] at this; cases this)) (fun _ => ?_)
    refine ax_iload_2 (pc := 29) C dX3_goBy_29 ?_
    refine ax_aload_0 (pc := 30) C dX3_goBy_30 ?_
    refine ax_iload_1 (pc := 31) C dX3_goBy_31 ?_
    refine ax_callVi (pc := 32) C (w_X3_followersOf F hp hn h7 (hp_st σ p)) kX3_followersOf mX3_91 dX3_goBy_32 (by decide) rfl hp.o rfl rfl rfl (Nat.le_of_ble_eq_true rfl) rfl ⟨Nat.le_refl _, Nat.le_refl _⟩ ?_
    refine ax_ior (pc := 35) C dX3_goBy_35 ?_
    rw [htr]
    refine ax_istore_3 (pc := 36) C dX3_goBy_36 rfl ?_
    refine ax_aload_0 (pc := 37) C dX3_goBy_37 ?_
    refine ax_iload_2 (pc := 38) C dX3_goBy_38 ?_
    refine ax_callVi (pc := 39) C (w_X3_foremostOf F hp hn h7 (hp_rd σ p n)) kX3_foremostOf mX3_94 dX3_goBy_39 (by decide) rfl hp.o rfl rfl rfl (Nat.le_of_ble_eq_true rfl) rfl ⟨Nat.le_refl _, Nat.le_refl _⟩ ?_
    rw [show hs_f (hp_rd σ p n) (hp_ah σ p) n = some f from ho]
    refine ax_istore_4 (pc := 42) C dX3_goBy_42 rfl ?_
    refine ax_aload_0 (pc := 44) C dX3_goBy_44 ?_
    refine ax_getR (pc := 45) C fX3_36 dX3_goBy_45 hp.o rfl ?_
    refine ax_aload_0 (pc := 48) C dX3_goBy_48 ?_
    refine ax_getI (pc := 49) C fX3_51 dX3_goBy_49 hp.o rfl ?_
    refine ax_iload_4 (pc := 52) C dX3_goBy_52 ?_
    refine ax_ise (pc := 54) (c := h) C dX3_goBy_54 hp.a9 hr (by omega) (by omega) ?_
    refine ax_aload_0 (pc := 55) C dX3_goBy_55 ?_
    refine ax_getR (pc := 56) C fX3_30 dX3_goBy_56 hp.o rfl ?_
    refine ax_iload_4 (pc := 59) C dX3_goBy_59 ?_
    refine ax_aload_0 (pc := 61) C dX3_goBy_61 ?_
    refine ax_iload_3 (pc := 62) C dX3_goBy_62 ?_
    refine ax_callSi (pc := 63) C (w_J6_bitCount_0f7a4 F) kJ6_bitCount_0f7a4 mX3_97 dX3_goBy_63 (by decide) rfl rfl (Nat.le_of_ble_eq_true rfl) rfl ⟨Nat.le_refl _, Nat.le_refl _⟩ ?_
    rw [hbc]
    refine ax_callVi (pc := 66) C (w_X3_tollFor F hp (k := ms_c (hp_tr σ p n) n) (by omega)) kX3_tollFor mX3_102 dX3_goBy_66 (by decide) rfl hp.o rfl rfl rfl (Nat.le_of_ble_eq_true rfl) rfl ⟨Nat.le_refl _, Nat.le_refl _⟩ ?_
    refine ax_ise (pc := 69) (c := f) C dX3_goBy_69 hp.a7 rfl (by omega) (by omega) ?_
    refine ax_aload_0 (pc := 70) C dX3_goBy_70 ?_
    refine ax_iload_3 (pc := 71) C dX3_goBy_71 ?_
    refine ax_callVv (pc := 72) C (w_X3_markGone F hp (n := n) (by rw [← hn]; simp [ax_up]) h7 (hp_tr σ p n)) kX3_markGone mX3_105 dX3_goBy_72 (by decide) rfl hp.o rfl rfl rfl (Nat.le_of_ble_eq_true rfl) rfl ⟨Nat.le_refl _, Nat.le_refl _⟩ ?_
    refine ax_aload_0 (pc := 75) C dX3_goBy_75 ?_
    refine ax_dup (pc := 76) C dX3_goBy_76 rfl ?_
    refine ax_getI (pc := 77) C fX3_51 dX3_goBy_77 hp.o rfl ?_
    refine ax_iconst (pc := 80) (v := 1) C dX3_goBy_80 (by decide) ?_
    refine ax_iadd (pc := 81) C dX3_goBy_81 ?_
    refine ax_putI (pc := 82) C fX3_51 dX3_goBy_82 hp.o rfl rfl rfl ?_
    refine ax_iload_3 (pc := 85) C dX3_goBy_85 ?_
    exact ax_ir (pc := 86) C rfl dX3_goBy_86 (by simp [hp_tm, ho, htr]) (by simp only [hp_go, ho, fN, r1, e11a, e11b, nI_1])
end
